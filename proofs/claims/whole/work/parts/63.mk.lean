def F_Md_init  (S : zzS) (M : zzM) (v0 : Nat) : Option (Unit × zzS × zzM) := zzck (zznn (400 : Int32)) (zzmk S M 1 ((400 : Int32)).toNatClampNeg ((400 : Int32)).toNatClampNeg fun b1 S M => zzck (zzhas S v0 19) (zzlet (zzsR M v0 2 (some b1)) fun M => zzck (zznn (2 : Int32)) (zzmk S M 1 ((2 : Int32)).toNatClampNeg ((2 : Int32)).toNatClampNeg fun b2 S M => zzck (zzhas S v0 19) (zzlet (zzsR M v0 4 (some b2)) fun M => zzck (zznn (800 : Int32)) (zzmk S M 1 ((800 : Int32)).toNatClampNeg ((800 : Int32)).toNatClampNeg fun b3 S M => zzck (zzhas S v0 19) (zzlet (zzsR M v0 5 (some b3)) fun M => zzck (zznn (1200 : Int32)) (zzmk S M 1 ((1200 : Int32)).toNatClampNeg ((1200 : Int32)).toNatClampNeg fun b4 S M => zzck (zzhas S v0 19) (zzlet (zzsR M v0 6 (some b4)) fun M => zzck (zznn (1200 : Int32)) (zzmk S M 1 ((1200 : Int32)).toNatClampNeg ((1200 : Int32)).toNatClampNeg fun b5 S M => zzck (zzhas S v0 19) (zzlet (zzsR M v0 7 (some b5)) fun M => zzck (zznn (1200 : Int32)) (zzmk S M 1 ((1200 : Int32)).toNatClampNeg ((1200 : Int32)).toNatClampNeg fun b6 S M => zzck (zzhas S v0 19) (zzlet (zzsR M v0 8 (some b6)) fun M => zzck (zznn (1200 : Int32)) (zzmk S M 1 ((1200 : Int32)).toNatClampNeg ((1200 : Int32)).toNatClampNeg fun b7 S M => zzck (zzhas S v0 19) (zzlet (zzsR M v0 9 (some b7)) fun M => zzck (zznn (1200 : Int32)) (zzmk S M 1 ((1200 : Int32)).toNatClampNeg ((1200 : Int32)).toNatClampNeg fun b8 S M => zzck (zzhas S v0 19) (zzlet (zzsR M v0 10 (some b8)) fun M => zzck (zznn (1200 : Int32)) (zzmk S M 1 ((1200 : Int32)).toNatClampNeg ((1200 : Int32)).toNatClampNeg fun b9 S M => zzck (zzhas S v0 19) (zzlet (zzsR M v0 11 (some b9)) fun M => zzck (zznn (52 : Int32)) (zzmk S M 1 ((52 : Int32)).toNatClampNeg ((52 : Int32)).toNatClampNeg fun b10 S M => zzck (zzhas S v0 19) (zzlet (zzsR M v0 12 (some b10)) fun M => zzck (zznn (2000 : Int32)) (zzmk S M 1 ((2000 : Int32)).toNatClampNeg ((2000 : Int32)).toNatClampNeg fun b11 S M => zzck (zzhas S v0 19) (zzlet (zzsR M v0 13 (some b11)) fun M => zzck (zznn (2000 : Int32)) (zzmk S M 1 ((2000 : Int32)).toNatClampNeg ((2000 : Int32)).toNatClampNeg fun b12 S M => zzck (zzhas S v0 19) (zzlet (zzsR M v0 14 (some b12)) fun M => zzck (zznn (4 : Int32)) (zzmk S M 1 ((4 : Int32)).toNatClampNeg ((4 : Int32)).toNatClampNeg fun b13 S M => zzck (zzhas S v0 19) (zzlet (zzsR M v0 22 (some b13)) fun M => zzck (zznn (4 : Int32)) (zzmk S M 1 ((4 : Int32)).toNatClampNeg ((4 : Int32)).toNatClampNeg fun b14 S M => zzck (zzhas S v0 19) (zzlet (zzsR M v0 23 (some b14)) fun M => zzck (zznn (4 : Int32)) (zzmk S M 1 ((4 : Int32)).toNatClampNeg ((4 : Int32)).toNatClampNeg fun b15 S M => zzck (zzhas S v0 19) (zzlet (zzsR M v0 24 (some b15)) fun M => zzck (zznn (64 : Int32)) (zzmk S M 1 ((64 : Int32)).toNatClampNeg ((64 : Int32)).toNatClampNeg fun b16 S M => zzck (zzhas S v0 19) (zzlet (zzsR M v0 26 (some b16)) fun M => zzck (zznn (72 : Int32)) (zzmk S M 2 ((72 : Int32)).toNatClampNeg ((72 : Int32)).toNatClampNeg fun b17 S M => zzck (zzhas S v0 19) (zzlet (zzsR M v0 29 (some b17)) fun M => zzck (zznn (20 : Int32)) (zzmk S M 2 ((20 : Int32)).toNatClampNeg ((20 : Int32)).toNatClampNeg fun b18 S M => zzck (zzhas S v0 19) (zzlet (zzsR M v0 31 (some b18)) fun M => zzlet (zzsI M v0 32 (-1 : Int32)) fun M => zzck (zznn (26 : Int32)) (zzmk S M 2 ((26 : Int32)).toNatClampNeg ((26 : Int32)).toNatClampNeg fun b19 S M => zzck (zzhas S v0 19) (zzlet (zzsR M v0 33 (some b19)) fun M => zzck (zznn (40 : Int32)) (zzmk S M 1 ((40 : Int32)).toNatClampNeg ((40 : Int32)).toNatClampNeg fun b20 S M => zzck (zzhas S v0 19) (zzlet (zzsR M v0 37 (some b20)) fun M => zzck (zznn (8 : Int32)) (zzmk S M 1 ((8 : Int32)).toNatClampNeg ((8 : Int32)).toNatClampNeg fun b21 S M => zzck (zzhas S v0 19) (zzlet (zzsR M v0 39 (some b21)) fun M => zzck (zznn (12 : Int32)) (zzmk S M 1 ((12 : Int32)).toNatClampNeg ((12 : Int32)).toNatClampNeg fun b22 S M => zzck (zzhas S v0 19) (zzlet (zzsR M v0 41 (some b22)) fun M => zzck (zznn (20 : Int32)) (zzmk S M 1 ((20 : Int32)).toNatClampNeg ((20 : Int32)).toNatClampNeg fun b23 S M => zzck (zzhas S v0 19) (zzlet (zzsR M v0 43 (some b23)) fun M => zzck (zznn (2 : Int32)) (zzmk S M 1 ((2 : Int32)).toNatClampNeg ((2 : Int32)).toNatClampNeg fun b24 S M => zzck (zzhas S v0 19) (zzlet (zzsR M v0 54 (some b24)) fun M => zzck (zznn (16 : Int32)) (zzmk S M 1 ((16 : Int32)).toNatClampNeg ((16 : Int32)).toNatClampNeg fun b25 S M => zzck (zzhas S v0 19) (zzlet (zzsR M v0 56 (some b25)) fun M => zzck (zznn (16 : Int32)) (zzmk S M 1 ((16 : Int32)).toNatClampNeg ((16 : Int32)).toNatClampNeg fun b26 S M => zzck (zzhas S v0 19) (zzlet (zzsR M v0 57 (some b26)) fun M => zzck (zznn (16 : Int32)) (zzmk S M 1 ((16 : Int32)).toNatClampNeg ((16 : Int32)).toNatClampNeg fun b27 S M => zzck (zzhas S v0 19) (zzlet (zzsR M v0 58 (some b27)) fun M => zzck (zznn (16 : Int32)) (zzmk S M 1 ((16 : Int32)).toNatClampNeg ((16 : Int32)).toNatClampNeg fun b28 S M => zzck (zzhas S v0 19) (zzlet (zzsR M v0 59 (some b28)) fun M => zzck (zznn (16 : Int32)) (zzmk S M 1 ((16 : Int32)).toNatClampNeg ((16 : Int32)).toNatClampNeg fun b29 S M => zzck (zzhas S v0 19) (zzlet (zzsR M v0 60 (some b29)) fun M => zzck (zznn (16 : Int32)) (zzmk S M 1 ((16 : Int32)).toNatClampNeg ((16 : Int32)).toNatClampNeg fun b30 S M => zzck (zzhas S v0 19) (zzlet (zzsR M v0 61 (some b30)) fun M => zzck (zznn (1152 : Int32)) (zzmk S M 2 ((1152 : Int32)).toNatClampNeg ((1152 : Int32)).toNatClampNeg fun b31 S M => zzck (zzhas S v0 19) (zzlet (zzsR M v0 62 (some b31)) fun M => zzck (zznn (16 : Int32)) (zzmk S M 1 ((16 : Int32)).toNatClampNeg ((16 : Int32)).toNatClampNeg fun b32 S M => zzck (zzhas S v0 19) (zzlet (zzsR M v0 63 (some b32)) fun M => zzck (zznn (64 : Int32)) (zzmk S M 2 ((64 : Int32)).toNatClampNeg ((64 : Int32)).toNatClampNeg fun b33 S M => zzck (zzhas S v0 19) (zzlet (zzsR M v0 64 (some b33)) fun M => zzcall (F_Md_empty S M v0) fun r34 M => some ((), S, M)))))))))))))))))))))))))))))))))))))))))))))))))))))))))))))))))))
set_option maxHeartbeats 4000000 in
set_option maxRecDepth 100000 in
theorem c_Md_init {l : Launch} {D : zzD} {bs : Nat} {A : Nat → Prop} {X : State → Prop} {S : zzS} {M : zzM} {out : Unit × zzS × zzM}  {v0 : Nat}  (hA : ∀ q : Nat, bs + S.2.1 ≤ q → A q) (hAb : ∀ q : Nat, A q → bs ≤ q) (hXs : zzStab bs X) (hnx : ∀ U : State, X U → zzNest U)  (hF : F_Md_init  S M v0 = some out) (ho : zzle S out.2.1) (hn_v0 : v0 < S.2.1) (hk_v0 : zzk S v0 = 19) : Met l y_Md_init (Cond.code y_Md_init prog_12_method_1_code 1 none :: zzW) { frames := 2, cells := out.2.1.2.1 - S.2.1, slots := out.2.1.2.2 - S.2.2, locals := 42 } (zzPcX D bs A X S M [.ref (bs + v0)]) (zzQc D bs A out.2.1 out.2.2 (bs + out.2.1.2.1) none) (out.2.1.2.1 - S.2.1) (out.2.1.2.2 - S.2.2) A := by
  refine zz_metA [.ref (bs + v0)] (by decide) (Nat.le_of_ble_eq_true rfl) hA hAb hXs (fun p e s m args below meth c C hr hlocks hin E => ?_)
  have hm : zzle S S := ⟨Nat.le_refl _, Nat.le_refl _⟩
  refine zz_eq (lv' := [(0, .ref (bs + v0))]) (st' := []) rfl rfl ?_
  unfold F_Md_init at hF
  refine zi_aload_n C d_Md_init_0 rfl 0 rfl ?_
  refine zi_objInit C zw_581 zw_526 zw_527 d_Md_init_1 (Nat.le_of_ble_eq_true rfl) (Nat.le_of_ble_eq_true rfl) ?_
  refine zi_aload_n C d_Md_init_4 rfl 0 rfl ?_
  refine zi_sipush (v := 400) C d_Md_init_5 (by decide) ?_
  refine zi_newarr_int C E hm zw_536 d_Md_init_8 hF (fun b1 S M hn_b1 hk_b1 hm ho hF => ?_)
  obtain ⟨hh, hF⟩ := zzck_e hF
  obtain ⟨hn_v0, hk_v0⟩ := of_decide_eq_true hh
  refine zi_putR C zc_9 (k := 2) (by decide) zw_28 rfl (Or.inr ⟨rfl, hin, rfl⟩) hn_v0 hk_v0 d_Md_init_10 (Or.inr ⟨_, rfl⟩) hF (fun M hF => ?_)
  refine zi_aload_n C d_Md_init_13 rfl 0 rfl ?_
  refine zi_iconst (v := 2) C d_Md_init_14 (by decide) ?_
  refine zi_newarr_int C E hm zw_536 d_Md_init_15 hF (fun b2 S M hn_b2 hk_b2 hm ho hF => ?_)
  obtain ⟨hh, hF⟩ := zzck_e hF
  obtain ⟨hn_v0, hk_v0⟩ := of_decide_eq_true hh
  refine zi_putR C zc_9 (k := 4) (by decide) zw_22 rfl (Or.inr ⟨rfl, hin, rfl⟩) hn_v0 hk_v0 d_Md_init_17 (Or.inr ⟨_, rfl⟩) hF (fun M hF => ?_)
  refine zi_aload_n C d_Md_init_20 rfl 0 rfl ?_
  refine zi_sipush (v := 800) C d_Md_init_21 (by decide) ?_
  refine zi_newarr_int C E hm zw_536 d_Md_init_24 hF (fun b3 S M hn_b3 hk_b3 hm ho hF => ?_)
  obtain ⟨hh, hF⟩ := zzck_e hF
  obtain ⟨hn_v0, hk_v0⟩ := of_decide_eq_true hh
  refine zi_putR C zc_9 (k := 5) (by decide) zw_147 rfl (Or.inr ⟨rfl, hin, rfl⟩) hn_v0 hk_v0 d_Md_init_26 (Or.inr ⟨_, rfl⟩) hF (fun M hF => ?_)
  refine zi_aload_n C d_Md_init_29 rfl 0 rfl ?_
  refine zi_sipush (v := 1200) C d_Md_init_30 (by decide) ?_
  refine zi_newarr_int C E hm zw_536 d_Md_init_33 hF (fun b4 S M hn_b4 hk_b4 hm ho hF => ?_)
  obtain ⟨hh, hF⟩ := zzck_e hF
  obtain ⟨hn_v0, hk_v0⟩ := of_decide_eq_true hh
  refine zi_putR C zc_9 (k := 6) (by decide) zw_15 rfl (Or.inr ⟨rfl, hin, rfl⟩) hn_v0 hk_v0 d_Md_init_35 (Or.inr ⟨_, rfl⟩) hF (fun M hF => ?_)
  refine zi_aload_n C d_Md_init_38 rfl 0 rfl ?_
  refine zi_sipush (v := 1200) C d_Md_init_39 (by decide) ?_
  refine zi_newarr_int C E hm zw_536 d_Md_init_42 hF (fun b5 S M hn_b5 hk_b5 hm ho hF => ?_)
  obtain ⟨hh, hF⟩ := zzck_e hF
  obtain ⟨hn_v0, hk_v0⟩ := of_decide_eq_true hh
  refine zi_putR C zc_9 (k := 7) (by decide) zw_87 rfl (Or.inr ⟨rfl, hin, rfl⟩) hn_v0 hk_v0 d_Md_init_44 (Or.inr ⟨_, rfl⟩) hF (fun M hF => ?_)
  refine zi_aload_n C d_Md_init_47 rfl 0 rfl ?_
  refine zi_sipush (v := 1200) C d_Md_init_48 (by decide) ?_
  refine zi_newarr_int C E hm zw_536 d_Md_init_51 hF (fun b6 S M hn_b6 hk_b6 hm ho hF => ?_)
  obtain ⟨hh, hF⟩ := zzck_e hF
  obtain ⟨hn_v0, hk_v0⟩ := of_decide_eq_true hh
  refine zi_putR C zc_9 (k := 8) (by decide) zw_88 rfl (Or.inr ⟨rfl, hin, rfl⟩) hn_v0 hk_v0 d_Md_init_53 (Or.inr ⟨_, rfl⟩) hF (fun M hF => ?_)
  refine zi_aload_n C d_Md_init_56 rfl 0 rfl ?_
  refine zi_sipush (v := 1200) C d_Md_init_57 (by decide) ?_
  refine zi_newarr_int C E hm zw_536 d_Md_init_60 hF (fun b7 S M hn_b7 hk_b7 hm ho hF => ?_)
  obtain ⟨hh, hF⟩ := zzck_e hF
  obtain ⟨hn_v0, hk_v0⟩ := of_decide_eq_true hh
  refine zi_putR C zc_9 (k := 9) (by decide) zw_89 rfl (Or.inr ⟨rfl, hin, rfl⟩) hn_v0 hk_v0 d_Md_init_62 (Or.inr ⟨_, rfl⟩) hF (fun M hF => ?_)
  refine zi_aload_n C d_Md_init_65 rfl 0 rfl ?_
  refine zi_sipush (v := 1200) C d_Md_init_66 (by decide) ?_
  refine zi_newarr_int C E hm zw_536 d_Md_init_69 hF (fun b8 S M hn_b8 hk_b8 hm ho hF => ?_)
  obtain ⟨hh, hF⟩ := zzck_e hF
  obtain ⟨hn_v0, hk_v0⟩ := of_decide_eq_true hh
  refine zi_putR C zc_9 (k := 10) (by decide) zw_90 rfl (Or.inr ⟨rfl, hin, rfl⟩) hn_v0 hk_v0 d_Md_init_71 (Or.inr ⟨_, rfl⟩) hF (fun M hF => ?_)
  refine zi_aload_n C d_Md_init_74 rfl 0 rfl ?_
  refine zi_sipush (v := 1200) C d_Md_init_75 (by decide) ?_
  refine zi_newarr_int C E hm zw_536 d_Md_init_78 hF (fun b9 S M hn_b9 hk_b9 hm ho hF => ?_)
  obtain ⟨hh, hF⟩ := zzck_e hF
  obtain ⟨hn_v0, hk_v0⟩ := of_decide_eq_true hh
  refine zi_putR C zc_9 (k := 11) (by decide) zw_91 rfl (Or.inr ⟨rfl, hin, rfl⟩) hn_v0 hk_v0 d_Md_init_80 (Or.inr ⟨_, rfl⟩) hF (fun M hF => ?_)
  refine zi_aload_n C d_Md_init_83 rfl 0 rfl ?_
  refine zi_bipush (v := 52) C d_Md_init_84 (by decide) ?_
  refine zi_newarr_int C E hm zw_536 d_Md_init_86 hF (fun b10 S M hn_b10 hk_b10 hm ho hF => ?_)
  obtain ⟨hh, hF⟩ := zzck_e hF
  obtain ⟨hn_v0, hk_v0⟩ := of_decide_eq_true hh
  refine zi_putR C zc_9 (k := 12) (by decide) zw_110 rfl (Or.inr ⟨rfl, hin, rfl⟩) hn_v0 hk_v0 d_Md_init_88 (Or.inr ⟨_, rfl⟩) hF (fun M hF => ?_)
  refine zi_aload_n C d_Md_init_91 rfl 0 rfl ?_
  refine zi_sipush (v := 2000) C d_Md_init_92 (by decide) ?_
  refine zi_newarr_int C E hm zw_536 d_Md_init_95 hF (fun b11 S M hn_b11 hk_b11 hm ho hF => ?_)
  obtain ⟨hh, hF⟩ := zzck_e hF
  obtain ⟨hn_v0, hk_v0⟩ := of_decide_eq_true hh
  refine zi_putR C zc_9 (k := 13) (by decide) zw_35 rfl (Or.inr ⟨rfl, hin, rfl⟩) hn_v0 hk_v0 d_Md_init_97 (Or.inr ⟨_, rfl⟩) hF (fun M hF => ?_)
  refine zi_aload_n C d_Md_init_100 rfl 0 rfl ?_
  refine zi_sipush (v := 2000) C d_Md_init_101 (by decide) ?_
  refine zi_newarr_int C E hm zw_536 d_Md_init_104 hF (fun b12 S M hn_b12 hk_b12 hm ho hF => ?_)
  obtain ⟨hh, hF⟩ := zzck_e hF
  obtain ⟨hn_v0, hk_v0⟩ := of_decide_eq_true hh
  refine zi_putR C zc_9 (k := 14) (by decide) zw_38 rfl (Or.inr ⟨rfl, hin, rfl⟩) hn_v0 hk_v0 d_Md_init_106 (Or.inr ⟨_, rfl⟩) hF (fun M hF => ?_)
  refine zi_aload_n C d_Md_init_109 rfl 0 rfl ?_
  refine zi_iconst (v := 4) C d_Md_init_110 (by decide) ?_
  refine zi_newarr_int C E hm zw_536 d_Md_init_111 hF (fun b13 S M hn_b13 hk_b13 hm ho hF => ?_)
  obtain ⟨hh, hF⟩ := zzck_e hF
  obtain ⟨hn_v0, hk_v0⟩ := of_decide_eq_true hh
  refine zi_putR C zc_9 (k := 22) (by decide) zw_93 rfl (Or.inr ⟨rfl, hin, rfl⟩) hn_v0 hk_v0 d_Md_init_113 (Or.inr ⟨_, rfl⟩) hF (fun M hF => ?_)
  refine zi_aload_n C d_Md_init_116 rfl 0 rfl ?_
  refine zi_iconst (v := 4) C d_Md_init_117 (by decide) ?_
  refine zi_newarr_int C E hm zw_536 d_Md_init_118 hF (fun b14 S M hn_b14 hk_b14 hm ho hF => ?_)
  obtain ⟨hh, hF⟩ := zzck_e hF
  obtain ⟨hn_v0, hk_v0⟩ := of_decide_eq_true hh
  refine zi_putR C zc_9 (k := 23) (by decide) zw_94 rfl (Or.inr ⟨rfl, hin, rfl⟩) hn_v0 hk_v0 d_Md_init_120 (Or.inr ⟨_, rfl⟩) hF (fun M hF => ?_)
  refine zi_aload_n C d_Md_init_123 rfl 0 rfl ?_
  refine zi_iconst (v := 4) C d_Md_init_124 (by decide) ?_
  refine zi_newarr_int C E hm zw_536 d_Md_init_125 hF (fun b15 S M hn_b15 hk_b15 hm ho hF => ?_)
  obtain ⟨hh, hF⟩ := zzck_e hF
  obtain ⟨hn_v0, hk_v0⟩ := of_decide_eq_true hh
  refine zi_putR C zc_9 (k := 24) (by decide) zw_582 rfl (Or.inr ⟨rfl, hin, rfl⟩) hn_v0 hk_v0 d_Md_init_127 (Or.inr ⟨_, rfl⟩) hF (fun M hF => ?_)
  refine zi_aload_n C d_Md_init_130 rfl 0 rfl ?_
  refine zi_bipush (v := 64) C d_Md_init_131 (by decide) ?_
  refine zi_newarr_int C E hm zw_536 d_Md_init_133 hF (fun b16 S M hn_b16 hk_b16 hm ho hF => ?_)
  obtain ⟨hh, hF⟩ := zzck_e hF
  obtain ⟨hn_v0, hk_v0⟩ := of_decide_eq_true hh
  refine zi_putR C zc_9 (k := 26) (by decide) zw_40 rfl (Or.inr ⟨rfl, hin, rfl⟩) hn_v0 hk_v0 d_Md_init_135 (Or.inr ⟨_, rfl⟩) hF (fun M hF => ?_)
  refine zi_aload_n C d_Md_init_138 rfl 0 rfl ?_
  refine zi_bipush (v := 72) C d_Md_init_139 (by decide) ?_
  refine zi_newarr_long C E hm zw_538 d_Md_init_141 hF (fun b17 S M hn_b17 hk_b17 hm ho hF => ?_)
  obtain ⟨hh, hF⟩ := zzck_e hF
  obtain ⟨hn_v0, hk_v0⟩ := of_decide_eq_true hh
  refine zi_putR C zc_9 (k := 29) (by decide) zw_152 rfl (Or.inr ⟨rfl, hin, rfl⟩) hn_v0 hk_v0 d_Md_init_143 (Or.inr ⟨_, rfl⟩) hF (fun M hF => ?_)
  refine zi_aload_n C d_Md_init_146 rfl 0 rfl ?_
  refine zi_bipush (v := 20) C d_Md_init_147 (by decide) ?_
  refine zi_newarr_long C E hm zw_538 d_Md_init_149 hF (fun b18 S M hn_b18 hk_b18 hm ho hF => ?_)
  obtain ⟨hh, hF⟩ := zzck_e hF
  obtain ⟨hn_v0, hk_v0⟩ := of_decide_eq_true hh
  refine zi_putR C zc_9 (k := 31) (by decide) zw_162 rfl (Or.inr ⟨rfl, hin, rfl⟩) hn_v0 hk_v0 d_Md_init_151 (Or.inr ⟨_, rfl⟩) hF (fun M hF => ?_)
  refine zi_aload_n C d_Md_init_154 rfl 0 rfl ?_
  refine zi_iconst (v := -1) C d_Md_init_155 (by decide) ?_
  refine zi_putI C zc_9 (k := 32) (by decide) zw_14 rfl (Or.inl rfl) hn_v0 hk_v0 d_Md_init_156 rfl hF (fun M hF => ?_)
  refine zi_aload_n C d_Md_init_159 rfl 0 rfl ?_
  refine zi_bipush (v := 26) C d_Md_init_160 (by decide) ?_
  refine zi_newarr_long C E hm zw_538 d_Md_init_162 hF (fun b19 S M hn_b19 hk_b19 hm ho hF => ?_)
  obtain ⟨hh, hF⟩ := zzck_e hF
  obtain ⟨hn_v0, hk_v0⟩ := of_decide_eq_true hh
  refine zi_putR C zc_9 (k := 33) (by decide) zw_10 rfl (Or.inr ⟨rfl, hin, rfl⟩) hn_v0 hk_v0 d_Md_init_164 (Or.inr ⟨_, rfl⟩) hF (fun M hF => ?_)
  refine zi_aload_n C d_Md_init_167 rfl 0 rfl ?_
  refine zi_bipush (v := 40) C d_Md_init_168 (by decide) ?_
  refine zi_newarr_int C E hm zw_536 d_Md_init_170 hF (fun b20 S M hn_b20 hk_b20 hm ho hF => ?_)
  obtain ⟨hh, hF⟩ := zzck_e hF
  obtain ⟨hn_v0, hk_v0⟩ := of_decide_eq_true hh
  refine zi_putR C zc_9 (k := 37) (by decide) zw_201 rfl (Or.inr ⟨rfl, hin, rfl⟩) hn_v0 hk_v0 d_Md_init_172 (Or.inr ⟨_, rfl⟩) hF (fun M hF => ?_)
  refine zi_aload_n C d_Md_init_175 rfl 0 rfl ?_
  refine zi_bipush (v := 8) C d_Md_init_176 (by decide) ?_
  refine zi_newarr_int C E hm zw_536 d_Md_init_178 hF (fun b21 S M hn_b21 hk_b21 hm ho hF => ?_)
  obtain ⟨hh, hF⟩ := zzck_e hF
  obtain ⟨hn_v0, hk_v0⟩ := of_decide_eq_true hh
  refine zi_putR C zc_9 (k := 39) (by decide) zw_206 rfl (Or.inr ⟨rfl, hin, rfl⟩) hn_v0 hk_v0 d_Md_init_180 (Or.inr ⟨_, rfl⟩) hF (fun M hF => ?_)
  refine zi_aload_n C d_Md_init_183 rfl 0 rfl ?_
  refine zi_bipush (v := 12) C d_Md_init_184 (by decide) ?_
  refine zi_newarr_int C E hm zw_536 d_Md_init_186 hF (fun b22 S M hn_b22 hk_b22 hm ho hF => ?_)
  obtain ⟨hh, hF⟩ := zzck_e hF
  obtain ⟨hn_v0, hk_v0⟩ := of_decide_eq_true hh
  refine zi_putR C zc_9 (k := 41) (by decide) zw_200 rfl (Or.inr ⟨rfl, hin, rfl⟩) hn_v0 hk_v0 d_Md_init_188 (Or.inr ⟨_, rfl⟩) hF (fun M hF => ?_)
  refine zi_aload_n C d_Md_init_191 rfl 0 rfl ?_
  refine zi_bipush (v := 20) C d_Md_init_192 (by decide) ?_
  refine zi_newarr_int C E hm zw_536 d_Md_init_194 hF (fun b23 S M hn_b23 hk_b23 hm ho hF => ?_)
  obtain ⟨hh, hF⟩ := zzck_e hF
  obtain ⟨hn_v0, hk_v0⟩ := of_decide_eq_true hh
  refine zi_putR C zc_9 (k := 43) (by decide) zw_208 rfl (Or.inr ⟨rfl, hin, rfl⟩) hn_v0 hk_v0 d_Md_init_196 (Or.inr ⟨_, rfl⟩) hF (fun M hF => ?_)
  refine zi_aload_n C d_Md_init_199 rfl 0 rfl ?_
  refine zi_iconst (v := 2) C d_Md_init_200 (by decide) ?_
  refine zi_newarr_int C E hm zw_536 d_Md_init_201 hF (fun b24 S M hn_b24 hk_b24 hm ho hF => ?_)
  obtain ⟨hh, hF⟩ := zzck_e hF
  obtain ⟨hn_v0, hk_v0⟩ := of_decide_eq_true hh
  refine zi_putR C zc_9 (k := 54) (by decide) zw_207 rfl (Or.inr ⟨rfl, hin, rfl⟩) hn_v0 hk_v0 d_Md_init_203 (Or.inr ⟨_, rfl⟩) hF (fun M hF => ?_)
  refine zi_aload_n C d_Md_init_206 rfl 0 rfl ?_
  refine zi_bipush (v := 16) C d_Md_init_207 (by decide) ?_
  refine zi_newarr_int C E hm zw_536 d_Md_init_209 hF (fun b25 S M hn_b25 hk_b25 hm ho hF => ?_)
  obtain ⟨hh, hF⟩ := zzck_e hF
  obtain ⟨hn_v0, hk_v0⟩ := of_decide_eq_true hh
  refine zi_putR C zc_9 (k := 56) (by decide) zw_180 rfl (Or.inr ⟨rfl, hin, rfl⟩) hn_v0 hk_v0 d_Md_init_211 (Or.inr ⟨_, rfl⟩) hF (fun M hF => ?_)
  refine zi_aload_n C d_Md_init_214 rfl 0 rfl ?_
  refine zi_bipush (v := 16) C d_Md_init_215 (by decide) ?_
  refine zi_newarr_int C E hm zw_536 d_Md_init_217 hF (fun b26 S M hn_b26 hk_b26 hm ho hF => ?_)
  obtain ⟨hh, hF⟩ := zzck_e hF
  obtain ⟨hn_v0, hk_v0⟩ := of_decide_eq_true hh
  refine zi_putR C zc_9 (k := 57) (by decide) zw_178 rfl (Or.inr ⟨rfl, hin, rfl⟩) hn_v0 hk_v0 d_Md_init_219 (Or.inr ⟨_, rfl⟩) hF (fun M hF => ?_)
  refine zi_aload_n C d_Md_init_222 rfl 0 rfl ?_
  refine zi_bipush (v := 16) C d_Md_init_223 (by decide) ?_
  refine zi_newarr_int C E hm zw_536 d_Md_init_225 hF (fun b27 S M hn_b27 hk_b27 hm ho hF => ?_)
  obtain ⟨hh, hF⟩ := zzck_e hF
  obtain ⟨hn_v0, hk_v0⟩ := of_decide_eq_true hh
  refine zi_putR C zc_9 (k := 58) (by decide) zw_188 rfl (Or.inr ⟨rfl, hin, rfl⟩) hn_v0 hk_v0 d_Md_init_227 (Or.inr ⟨_, rfl⟩) hF (fun M hF => ?_)
  refine zi_aload_n C d_Md_init_230 rfl 0 rfl ?_
  refine zi_bipush (v := 16) C d_Md_init_231 (by decide) ?_
  refine zi_newarr_int C E hm zw_536 d_Md_init_233 hF (fun b28 S M hn_b28 hk_b28 hm ho hF => ?_)
  obtain ⟨hh, hF⟩ := zzck_e hF
  obtain ⟨hn_v0, hk_v0⟩ := of_decide_eq_true hh
  refine zi_putR C zc_9 (k := 59) (by decide) zw_185 rfl (Or.inr ⟨rfl, hin, rfl⟩) hn_v0 hk_v0 d_Md_init_235 (Or.inr ⟨_, rfl⟩) hF (fun M hF => ?_)
  refine zi_aload_n C d_Md_init_238 rfl 0 rfl ?_
  refine zi_bipush (v := 16) C d_Md_init_239 (by decide) ?_
  refine zi_newarr_int C E hm zw_536 d_Md_init_241 hF (fun b29 S M hn_b29 hk_b29 hm ho hF => ?_)
  obtain ⟨hh, hF⟩ := zzck_e hF
  obtain ⟨hn_v0, hk_v0⟩ := of_decide_eq_true hh
  refine zi_putR C zc_9 (k := 60) (by decide) zw_186 rfl (Or.inr ⟨rfl, hin, rfl⟩) hn_v0 hk_v0 d_Md_init_243 (Or.inr ⟨_, rfl⟩) hF (fun M hF => ?_)
  refine zi_aload_n C d_Md_init_246 rfl 0 rfl ?_
  refine zi_bipush (v := 16) C d_Md_init_247 (by decide) ?_
  refine zi_newarr_int C E hm zw_536 d_Md_init_249 hF (fun b30 S M hn_b30 hk_b30 hm ho hF => ?_)
  obtain ⟨hh, hF⟩ := zzck_e hF
  obtain ⟨hn_v0, hk_v0⟩ := of_decide_eq_true hh
  refine zi_putR C zc_9 (k := 61) (by decide) zw_187 rfl (Or.inr ⟨rfl, hin, rfl⟩) hn_v0 hk_v0 d_Md_init_251 (Or.inr ⟨_, rfl⟩) hF (fun M hF => ?_)
  refine zi_aload_n C d_Md_init_254 rfl 0 rfl ?_
  refine zi_sipush (v := 1152) C d_Md_init_255 (by decide) ?_
  refine zi_newarr_long C E hm zw_538 d_Md_init_258 hF (fun b31 S M hn_b31 hk_b31 hm ho hF => ?_)
  obtain ⟨hh, hF⟩ := zzck_e hF
  obtain ⟨hn_v0, hk_v0⟩ := of_decide_eq_true hh
  refine zi_putR C zc_9 (k := 62) (by decide) zw_174 rfl (Or.inr ⟨rfl, hin, rfl⟩) hn_v0 hk_v0 d_Md_init_260 (Or.inr ⟨_, rfl⟩) hF (fun M hF => ?_)
  refine zi_aload_n C d_Md_init_263 rfl 0 rfl ?_
  refine zi_bipush (v := 16) C d_Md_init_264 (by decide) ?_
  refine zi_newarr_int C E hm zw_536 d_Md_init_266 hF (fun b32 S M hn_b32 hk_b32 hm ho hF => ?_)
  obtain ⟨hh, hF⟩ := zzck_e hF
  obtain ⟨hn_v0, hk_v0⟩ := of_decide_eq_true hh
  refine zi_putR C zc_9 (k := 63) (by decide) zw_173 rfl (Or.inr ⟨rfl, hin, rfl⟩) hn_v0 hk_v0 d_Md_init_268 (Or.inr ⟨_, rfl⟩) hF (fun M hF => ?_)
  refine zi_aload_n C d_Md_init_271 rfl 0 rfl ?_
  refine zi_bipush (v := 64) C d_Md_init_272 (by decide) ?_
  refine zi_newarr_long C E hm zw_538 d_Md_init_274 hF (fun b33 S M hn_b33 hk_b33 hm ho hF => ?_)
  obtain ⟨hh, hF⟩ := zzck_e hF
  obtain ⟨hn_v0, hk_v0⟩ := of_decide_eq_true hh
  refine zi_putR C zc_9 (k := 64) (by decide) zw_168 rfl (Or.inr ⟨rfl, hin, rfl⟩) hn_v0 hk_v0 d_Md_init_276 (Or.inr ⟨_, rfl⟩) hF (fun M hF => ?_)
  refine zi_aload_n C d_Md_init_279 rfl 0 rfl ?_
  obtain ⟨r34, M, hqr34, hF⟩ := zzcall_e hF
  refine zi_callV_v (M2 := M) (n := 0) (As := []) (st := []) C (c_Md_empty hqr34 hn_v0 hk_v0) zw_24 zw_18 (by decide +kernel) ⟨Nat.le_of_ble_eq_true rfl, Nat.le_of_ble_eq_true rfl⟩ rfl (Nat.le_of_ble_eq_true rfl) (zz_hf hm ho) zw_25 zw_26 zw_27 zc_9.1 hn_v0 hk_v0 rfl d_Md_init_280 ?_
  cases hF
  exact zi_vret C hlocks hr d_Md_init_283 rfl rfl rfl rfl
def F_Ar_copyOf  (S : zzS) (M : zzM) (v0 : Option Nat) (v1 : Int32) : Option (Option Nat × zzS × zzM) := zzopt S 1 v0 (none) (fun b1 => zzlet (Int32.ofNat (zzn S b1)) fun x2 => if v1 = x2 then (none) else (zzck (zznn v1) (zzmk S M 1 (v1).toNatClampNeg (v1).toNatClampNeg fun b3 S M => zzck (zzhas S b1 1) (zzlet (Int32.ofNat (zzn S b1)) fun x4 => zzlet (if v1 < x4 then v1 else x4) fun x5 => zzck (zzcpok S b1 (0 : Int32) b3 (0 : Int32) x5) (zzlet (zzcpI M b1 ((0 : Int32)).toNatClampNeg b3 ((0 : Int32)).toNatClampNeg (x5).toNatClampNeg) fun M => some (some b3, S, M))))))
set_option maxHeartbeats 4000000 in
set_option maxRecDepth 100000 in
theorem c_Ar_copyOf {l : Launch} {D : zzD} {bs : Nat} {A : Nat → Prop} {X : State → Prop} {S : zzS} {M : zzM} {out : Option Nat × zzS × zzM}  {v0 : Option Nat} {v1 : Int32}  (hA : ∀ q : Nat, bs + S.2.1 ≤ q → A q) (hAb : ∀ q : Nat, A q → bs ≤ q) (hXs : zzStab bs X) (hnx : ∀ U : State, X U → zzNest U)  (hF : F_Ar_copyOf  S M v0 v1 = some out) (ho : zzle S out.2.1)  : Met l y_Ar_copyOf (Cond.code y_Ar_copyOf prog_24_method_123_code 3 (some (.array .int)) :: zzW) { frames := 3, cells := out.2.1.2.1 - S.2.1, slots := out.2.1.2.2 - S.2.2, locals := 120 } (zzPcX D bs A X S M [zzrf bs v0, .int v1]) (zzQc D bs A out.2.1 out.2.2 (bs + out.2.1.2.1) (some (zzrf bs out.1))) (out.2.1.2.1 - S.2.1) (out.2.1.2.2 - S.2.2) A := by
  refine zz_metA [zzrf bs v0, .int v1] (by decide) (by cases v0 <;> exact Nat.le_of_ble_eq_true rfl) hA hAb hXs (fun p e s m args below meth c C hr hlocks hin E => ?_)
  have hm : zzle S S := ⟨Nat.le_refl _, Nat.le_refl _⟩
  refine zz_eq (lv' := [(0, zzrf bs v0), (1, .int v1)]) (st' := []) (by cases v0 <;> rfl) rfl ?_
  unfold F_Ar_copyOf at hF
  refine zi_iload_n C d_Ar_copyOf_0 rfl 1 rfl ?_
  refine zi_aload_nO C d_Ar_copyOf_1 rfl 0 rfl ?_
  rcases zzopt_e hF with ⟨hv0, hF⟩ | ⟨b1, hv0, hn_b1, hk_b1, hF⟩
  · refine zz_eq (lv' := [(0, .null), (1, .int v1)]) (st' := [.null, .int v1]) (by first | rfl | (rw [hv0]; rfl) | (rw [hv0]; done)) (by first | rfl | (rw [hv0]; rfl) | (rw [hv0]; done)) ?_
    cases hF
  · refine zz_eq (lv' := [(0, .ref (bs + b1)), (1, .int v1)]) (st' := [.ref (bs + b1), .int v1]) (by first | rfl | (rw [hv0]; rfl) | (rw [hv0]; done)) (by first | rfl | (rw [hv0]; rfl) | (rw [hv0]; done)) ?_
    refine zi_alen C hn_b1 hk_b1 (by decide) (by decide) d_Ar_copyOf_2 hF (fun x2 hF => ?_)
    refine zi_icmp_ne (tgt := 14) C d_Ar_copyOf_3 (by decide) hF (fun hF => ?_) (fun hF => ?_)
    · refine zi_iload_n C d_Ar_copyOf_14 rfl 1 rfl ?_
      refine zi_newarr_int C E hm zw_536 d_Ar_copyOf_15 hF (fun b3 S M hn_b3 hk_b3 hm ho hF => ?_)
      refine zi_astore_n (lv' := [(2, .ref (bs + b3)), (0, .ref (bs + b1)), (1, .int v1)]) C d_Ar_copyOf_17 rfl (by decide) rfl ?_
      refine zi_aload_n C d_Ar_copyOf_18 rfl 1 rfl ?_
      refine zi_iconst (v := 0) C d_Ar_copyOf_19 (by decide) ?_
      refine zi_aload_n C d_Ar_copyOf_20 rfl 0 rfl ?_
      refine zi_iconst (v := 0) C d_Ar_copyOf_21 (by decide) ?_
      refine zi_aload_n C d_Ar_copyOf_22 rfl 1 rfl ?_
      obtain ⟨hh, hF⟩ := zzck_e hF
      obtain ⟨hn_b1, hk_b1⟩ := of_decide_eq_true hh
      refine zi_alen C hn_b1 hk_b1 (by decide) (by decide) d_Ar_copyOf_23 hF (fun x4 hF => ?_)
      refine zi_iload_n C d_Ar_copyOf_24 rfl 2 rfl ?_
      refine zi_mmin C zw_584 zw_585 zw_586 zw_587 (Nat.le_of_ble_eq_true rfl) (Nat.le_of_ble_eq_true rfl) (zz_hf hm ho) d_Ar_copyOf_25 hF (fun x5 hF => ?_)
      refine zi_acopyI C hn_b1 hk_b1 hn_b3 hk_b3 zw_583 zw_356 zw_357 zw_358 (Nat.le_of_ble_eq_true rfl) (Nat.le_of_ble_eq_true rfl) d_Ar_copyOf_28 hF (fun M hF => ?_)
      refine zi_aload_n C d_Ar_copyOf_31 rfl 0 rfl ?_
      cases hF
      exact zi_aret C hlocks hr (Or.inr ⟨_, rfl⟩) (Or.inr ⟨_, rfl⟩) d_Ar_copyOf_32 rfl rfl rfl rfl
    · refine zi_aload_n C d_Ar_copyOf_6 rfl 0 rfl ?_
      cases hF
def F_Rd_begun  (S : zzS) (M : zzM) (v0 : Nat) (v1 : Int32) : Option (Option Nat × zzS × zzM) := zzcall (F_Rd_isVariable S M v1) fun r1 M => if r1 = 0 then (zzcall (F_Rd_isFunction S M v1) fun r2 M => if r2 = 0 then (zzmk S M 13 0 9 fun b3 S M => zzck (zzhas S v0 17) (zzlet (zzI M v0 2) fun x4 => zzlet (zzI M v0 3) fun x5 => zzcall (F_St_init S M b3 v1 (0 : Int32) x4 x5) fun r6 M => some (some b3, S, M))) else (zzmk S M 13 0 9 fun b7 S M => zzlet (v1 - (65 : Int32)) fun x8 => zzck (zzhas S v0 17) (zzlet (zzI M v0 2) fun x9 => zzlet (zzI M v0 3) fun x10 => zzcall (F_St_init S M b7 (65 : Int32) x8 x9 x10) fun r11 M => some (some b7, S, M)))) else (zzmk S M 13 0 9 fun b12 S M => zzlet (v1 - (97 : Int32)) fun x13 => zzck (zzhas S v0 17) (zzlet (zzI M v0 2) fun x14 => zzlet (zzI M v0 3) fun x15 => zzcall (F_St_init S M b12 (97 : Int32) x13 x14 x15) fun r16 M => some (some b12, S, M)))
set_option maxHeartbeats 4000000 in
set_option maxRecDepth 100000 in
theorem c_Rd_begun {l : Launch} {D : zzD} {bs : Nat} {A : Nat → Prop} {X : State → Prop} {S : zzS} {M : zzM} {out : Option Nat × zzS × zzM}  {v0 : Nat} {v1 : Int32}  (hA : ∀ q : Nat, bs + S.2.1 ≤ q → A q) (hAb : ∀ q : Nat, A q → bs ≤ q) (hXs : zzStab bs X) (hnx : ∀ U : State, X U → zzNest U)  (hF : F_Rd_begun  S M v0 v1 = some out) (ho : zzle S out.2.1) (hn_v0 : v0 < S.2.1) (hk_v0 : zzk S v0 = 17) : Met l y_Rd_begun (Cond.code y_Rd_begun prog_5_method_8_code 2 (some (.object "BoardScript$Statement")) :: zzW) { frames := 2, cells := out.2.1.2.1 - S.2.1, slots := out.2.1.2.2 - S.2.2, locals := 44 } (zzPcX D bs A X S M [.ref (bs + v0), .int v1]) (zzQc D bs A out.2.1 out.2.2 (bs + out.2.1.2.1) (some (zzrf bs out.1))) (out.2.1.2.1 - S.2.1) (out.2.1.2.2 - S.2.2) A := by
  refine zz_metA [.ref (bs + v0), .int v1] (by decide) (Nat.le_of_ble_eq_true rfl) hA hAb hXs (fun p e s m args below meth c C hr hlocks hin E => ?_)
  have hm : zzle S S := ⟨Nat.le_refl _, Nat.le_refl _⟩
  refine zz_eq (lv' := [(0, .ref (bs + v0)), (1, .int v1)]) (st' := []) rfl rfl ?_
  unfold F_Rd_begun at hF
  refine zi_iload_n C d_Rd_begun_0 rfl 1 rfl ?_
  obtain ⟨r1, M, hqr1, hF⟩ := zzcall_e hF
  refine zi_callS_i (M2 := M) (r := r1) (n := 1) (As := [.int v1]) (st := []) C (c_Rd_isVariable hqr1 ) zw_427 zw_367 (by decide +kernel) ⟨Nat.le_of_ble_eq_true rfl, Nat.le_of_ble_eq_true rfl⟩ rfl (Nat.le_of_ble_eq_true rfl) (zz_hf hm ho) zw_428 zw_429 rfl d_Rd_begun_1 ?_
  refine zi_if_eq (tgt := 29) C d_Rd_begun_4 (by decide) hF (fun hF => ?_) (fun hF => ?_)
  · refine zi_iload_n C d_Rd_begun_29 rfl 1 rfl ?_
    obtain ⟨r2, M, hqr2, hF⟩ := zzcall_e hF
    refine zi_callS_i (M2 := M) (r := r2) (n := 1) (As := [.int v1]) (st := []) C (c_Rd_isFunction hqr2 ) zw_371 zw_367 (by decide +kernel) ⟨Nat.le_of_ble_eq_true rfl, Nat.le_of_ble_eq_true rfl⟩ rfl (Nat.le_of_ble_eq_true rfl) (zz_hf hm ho) zw_372 zw_373 rfl d_Rd_begun_30 ?_
    refine zi_if_eq (tgt := 58) C d_Rd_begun_33 (by decide) hF (fun hF => ?_) (fun hF => ?_)
    · refine zi_new C E hm zc_3 (by decide +kernel) zw_543 zw_592 zw_589 d_Rd_begun_58 hF (fun b3 S M hn_b3 hk_b3 hm ho hF => ?_)
      refine zi_dup C d_Rd_begun_61 rfl ?_
      refine zi_iload_n C d_Rd_begun_62 rfl 1 rfl ?_
      refine zi_iconst (v := 0) C d_Rd_begun_63 (by decide) ?_
      refine zi_aload_n C d_Rd_begun_64 rfl 0 rfl ?_
      obtain ⟨hh, hF⟩ := zzck_e hF
      obtain ⟨hn_v0, hk_v0⟩ := of_decide_eq_true hh
      refine zi_getI C zc_7 (k := 2) (by decide) zw_362 rfl hn_v0 hk_v0 d_Rd_begun_65 (fun _ _ _ => rfl) hF (fun x4 hF => ?_)
      refine zi_aload_n C d_Rd_begun_68 rfl 0 rfl ?_
      refine zi_getI C zc_7 (k := 3) (by decide) zw_365 rfl hn_v0 hk_v0 d_Rd_begun_69 (fun _ _ _ => rfl) hF (fun x5 hF => ?_)
      obtain ⟨r6, M, hqr6, hF⟩ := zzcall_e hF
      refine zi_callI0 (M2 := M) (n := 4) (As := [.int v1, .int (0 : Int32), .int x4, .int x5]) (st := [.ref (bs + b3)]) C (c_St_init hqr6 hn_b3 hk_b3) zw_588 zw_589 (by decide +kernel) ⟨Nat.le_of_ble_eq_true rfl, Nat.le_of_ble_eq_true rfl⟩ rfl (Nat.le_of_ble_eq_true rfl) (zz_hf hm ho) zw_590 zw_591 rfl rfl d_Rd_begun_72 ?_
      cases hF
      exact zi_aret C hlocks hr (Or.inl ⟨_, rfl⟩) (Or.inr ⟨_, rfl⟩) d_Rd_begun_75 rfl rfl rfl rfl
    · refine zi_new C E hm zc_3 (by decide +kernel) zw_543 zw_592 zw_589 d_Rd_begun_36 hF (fun b7 S M hn_b7 hk_b7 hm ho hF => ?_)
      refine zi_dup C d_Rd_begun_39 rfl ?_
      refine zi_bipush (v := 65) C d_Rd_begun_40 (by decide) ?_
      refine zi_iload_n C d_Rd_begun_42 rfl 1 rfl ?_
      refine zi_bipush (v := 65) C d_Rd_begun_43 (by decide) ?_
      refine zi_isub C d_Rd_begun_45 hF (fun x8 hF => ?_)
      refine zi_aload_n C d_Rd_begun_46 rfl 0 rfl ?_
      obtain ⟨hh, hF⟩ := zzck_e hF
      obtain ⟨hn_v0, hk_v0⟩ := of_decide_eq_true hh
      refine zi_getI C zc_7 (k := 2) (by decide) zw_362 rfl hn_v0 hk_v0 d_Rd_begun_47 (fun _ _ _ => rfl) hF (fun x9 hF => ?_)
      refine zi_aload_n C d_Rd_begun_50 rfl 0 rfl ?_
      refine zi_getI C zc_7 (k := 3) (by decide) zw_365 rfl hn_v0 hk_v0 d_Rd_begun_51 (fun _ _ _ => rfl) hF (fun x10 hF => ?_)
      obtain ⟨r11, M, hqr11, hF⟩ := zzcall_e hF
      refine zi_callI0 (M2 := M) (n := 4) (As := [.int (65 : Int32), .int x8, .int x9, .int x10]) (st := [.ref (bs + b7)]) C (c_St_init hqr11 hn_b7 hk_b7) zw_588 zw_589 (by decide +kernel) ⟨Nat.le_of_ble_eq_true rfl, Nat.le_of_ble_eq_true rfl⟩ rfl (Nat.le_of_ble_eq_true rfl) (zz_hf hm ho) zw_590 zw_591 rfl rfl d_Rd_begun_54 ?_
      cases hF
      exact zi_aret C hlocks hr (Or.inl ⟨_, rfl⟩) (Or.inr ⟨_, rfl⟩) d_Rd_begun_57 rfl rfl rfl rfl
  · refine zi_new C E hm zc_3 (by decide +kernel) zw_543 zw_592 zw_589 d_Rd_begun_7 hF (fun b12 S M hn_b12 hk_b12 hm ho hF => ?_)
    refine zi_dup C d_Rd_begun_10 rfl ?_
    refine zi_bipush (v := 97) C d_Rd_begun_11 (by decide) ?_
    refine zi_iload_n C d_Rd_begun_13 rfl 1 rfl ?_
    refine zi_bipush (v := 97) C d_Rd_begun_14 (by decide) ?_
    refine zi_isub C d_Rd_begun_16 hF (fun x13 hF => ?_)
    refine zi_aload_n C d_Rd_begun_17 rfl 0 rfl ?_
    obtain ⟨hh, hF⟩ := zzck_e hF
    obtain ⟨hn_v0, hk_v0⟩ := of_decide_eq_true hh
    refine zi_getI C zc_7 (k := 2) (by decide) zw_362 rfl hn_v0 hk_v0 d_Rd_begun_18 (fun _ _ _ => rfl) hF (fun x14 hF => ?_)
    refine zi_aload_n C d_Rd_begun_21 rfl 0 rfl ?_
    refine zi_getI C zc_7 (k := 3) (by decide) zw_365 rfl hn_v0 hk_v0 d_Rd_begun_22 (fun _ _ _ => rfl) hF (fun x15 hF => ?_)
    obtain ⟨r16, M, hqr16, hF⟩ := zzcall_e hF
    refine zi_callI0 (M2 := M) (n := 4) (As := [.int (97 : Int32), .int x13, .int x14, .int x15]) (st := [.ref (bs + b12)]) C (c_St_init hqr16 hn_b12 hk_b12) zw_588 zw_589 (by decide +kernel) ⟨Nat.le_of_ble_eq_true rfl, Nat.le_of_ble_eq_true rfl⟩ rfl (Nat.le_of_ble_eq_true rfl) (zz_hf hm ho) zw_590 zw_591 rfl rfl d_Rd_begun_25 ?_
    cases hF
    exact zi_aret C hlocks hr (Or.inl ⟨_, rfl⟩) (Or.inr ⟨_, rfl⟩) d_Rd_begun_28 rfl rfl rfl rfl
