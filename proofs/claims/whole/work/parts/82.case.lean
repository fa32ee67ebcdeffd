def lwkm : List (Nat × Nat) := [(19, 0), (1, 400), (1, 2), (1, 800), (1, 1200), (1, 1200), (1, 1200), (1, 1200), (1, 1200), (1, 1200), (1, 52), (1, 2000), (1, 2000), (1, 4), (1, 4), (1, 4), (1, 64), (2, 72), (2, 20), (2, 26), (1, 40), (1, 8), (1, 12), (1, 20), (1, 2), (1, 16), (1, 16), (1, 16), (1, 16), (1, 16), (1, 16), (2, 1152), (1, 16), (2, 64)]
def lwkc : List (Nat × Nat) := [(10, 0), (3, 400), (11, 0), (12, 0), (4, 26), (14, 0), (2, 72), (2, 20), (5, 6), (2, 72), (2, 72), (2, 72), (2, 72), (2, 72), (2, 72), (1, 6), (15, 0), (2, 26), (2, 13), (16, 0), (1, 40), (4, 8), (1, 20), (17, 0), (3, 0), (4, 0), (1, 400), (18, 0)]
/-- the reference's shape -/
def lwSm : zzS := (fun a => if 28 ≤ a ∧ a < 62 then lwkm.getD (a - 28) (0, 0) else (0, 0), 62, 0)
/-- the class's shape at the beginning: its 28 cells, the reference's as of no kind, the law's row -/
def lwSc : zzS := (fun a => if a < 28 then lwkc.getD a (0, 0) else if a = 62 then (2, 1) else (0, 0), 63, 15648)
theorem lw_cmp {x y : Int64} (h : x = y) : lg_cmp x y = 0 := by subst h; simp [lg_cmp]
theorem lw_28 : 28 < lwSm.2.1 := by decide
theorem lw_k28 : zzk lwSm 28 = 19 := by decide
set_option maxHeartbeats 4000000 in
set_option maxRecDepth 100000 in
theorem lwc_unit {p : Program} {l : Launch} {e : Env} {s : State} {m : MethodId} {b : Nat} {below : List Frame} {meth : Method} {c : Code} {D : zzD} {bs : Nat} {Sc : zzS} {Mc Mm : zzM} (C : lwK p s m b c D) (hbs : bs = s.heap.size) {L : Nat} {xs : Nat → Int32} (hX0 : va_X b L xs s s.heap) (hbl : b < s.heap.size) (hL : L ≤ 2560) {n : Nat} (hn5 : n + 5 ≤ L) (hroom : Sc.2.1 ≤ 601024 ∧ Sc.2.2 ≤ 7293034) (hb0 : 0 < Sc.2.1) (hk0 : zzk Sc 0 = 10) {Mc1 Mm1 : zzM} {r : Int32} (h1 : F_Bs_unit Sc Mc 0 (xs (n + 1)) = some (r, Mc1)) (h2 : F_Md_unit lwSm Mm 28 (xs (n + 1)) = some (r, Mm1)) (kk : lwB p l e s m b below meth c (lwP D bs Sc Mc1 lwSm Mm1) Sc.2.1 Sc.2.2 745 [(4, .int (nI n)), (3, .ref (bs + 62)), (2, .ref (bs + 28)), (1, .ref (bs + 0)), (0, .ref b)] []) : lwB p l e s m b below meth c (lwP D bs Sc Mc lwSm Mm) Sc.2.1 Sc.2.2 120 [(4, .int (nI n)), (3, .ref (bs + 62)), (2, .ref (bs + 28)), (1, .ref (bs + 0)), (0, .ref b)] [] := by
  refine li_aload_n C d_Lw_law_120 rfl 3 rfl ?_
  refine li_arg (k := 1) C hX0 hbl hL (by decide) (by omega) 4 0 rfl rfl d_Lw_law_121 d_Lw_law_122 d_Lw_law_124 d_Lw_law_125 d_Lw_law_126 ?_
  refine li_cv1 (n := 1) (res := (some (.int r))) (As := [.int (xs (n + 1))]) (st := []) (M2 := Mc1) C hbs (c_Bs_unit (out := (r, Mc1)) h1 hb0 hk0) zw_689 zw_659 (by decide +kernel) ⟨Nat.le_of_ble_eq_true rfl, Nat.le_of_ble_eq_true rfl⟩ rfl (Nat.le_of_ble_eq_true rfl) hroom zw_686 zw_687 zw_688 zc_0.1 hb0 hk0 rfl d_Lw_law_127 ?_
  refine li_aload_n C d_Lw_law_130 rfl 2 rfl ?_
  refine li_arg (k := 1) C hX0 hbl hL (by decide) (by omega) 4 0 rfl rfl d_Lw_law_131 d_Lw_law_132 d_Lw_law_134 d_Lw_law_135 d_Lw_law_136 ?_
  refine li_cv2 (n := 1) (res := (some (.int r))) (As := [.int (xs (n + 1))]) (st := [.int r]) (M2 := Mm1) C hbs (c_Md_unit (out := (r, Mm1)) h2 lw_28 lw_k28) zw_693 zw_18 (by decide +kernel) ⟨Nat.le_of_ble_eq_true rfl, Nat.le_of_ble_eq_true rfl⟩ rfl (Nat.le_of_ble_eq_true rfl) hroom zw_690 zw_691 zw_692 zc_9.1 lw_28 lw_k28 rfl d_Lw_law_137 ?_
  refine li_icmpeqT (tgt := 745) C d_Lw_law_140 (by decide) rfl ?_
  refine li_sub [0, 1, 2, 3, 4] (lv' := [(4, .int (nI n)), (3, .ref (bs + 62)), (2, .ref (bs + 28)), (1, .ref (bs + 0)), (0, .ref b)]) rfl ?_
  exact kk
set_option maxHeartbeats 4000000 in
set_option maxRecDepth 100000 in
theorem lwc_read {p : Program} {l : Launch} {e : Env} {s : State} {m : MethodId} {b : Nat} {below : List Frame} {meth : Method} {c : Code} {D : zzD} {bs : Nat} {Sc : zzS} {Mc Mm : zzM} (C : lwK p s m b c D) (hbs : bs = s.heap.size) {L : Nat} {xs : Nat → Int32} (hX0 : va_X b L xs s s.heap) (hbl : b < s.heap.size) (hL : L ≤ 2560) {n : Nat} (hn5 : n + 5 ≤ L) (hroom : Sc.2.1 ≤ 601024 ∧ Sc.2.2 ≤ 7293034) (hb0 : 0 < Sc.2.1) (hk0 : zzk Sc 0 = 10) {X : State → Prop} (hXs : zzStab bs X) (hX : X s) {Mc1 Mm1 : zzM} {S2 : zzS} {r : Int32} {adK adV : Nat → Nat} (hA : ∀ q : Nat, bs + Sc.2.1 ≤ q → lwAc bs q) (hAb : ∀ q : Nat, lwAc bs q → bs ≤ q) (hnx : ∀ U : State, X U → zzXF bs adK adV U) (hle : zzle Sc S2) (hroom1 : S2.2.1 ≤ 601024 ∧ S2.2.2 ≤ 7293034) (h1 : F_Bs_read Sc Mc 0 = some (r, S2, Mc1)) (h2 : F_Md_read lwSm Mm 28 = some (r, Mm1)) (kk : lwB p l e s m b below meth c (lwP D bs S2 Mc1 lwSm Mm1) S2.2.1 S2.2.2 745 [(4, .int (nI n)), (3, .ref (bs + 62)), (2, .ref (bs + 28)), (1, .ref (bs + 0)), (0, .ref b)] []) : lwB p l e s m b below meth c (lwP D bs Sc Mc lwSm Mm) Sc.2.1 Sc.2.2 145 [(4, .int (nI n)), (3, .ref (bs + 62)), (2, .ref (bs + 28)), (1, .ref (bs + 0)), (0, .ref b)] [] := by
  refine li_aload_n C d_Lw_law_145 rfl 3 rfl ?_
  refine li_cv1A (n := 0) (res := (some (.int r))) (As := []) (st := []) (S2 := S2) (M2 := Mc1) (mc := S2.2.1 - Sc.2.1) (ms := S2.2.2 - Sc.2.2) C hbs hXs hX (c_Bs_read (out := (r, S2, Mc1)) hA hAb hXs hnx h1 hle hb0 hk0) zw_697 zw_659 (by decide +kernel) ⟨Nat.le_of_ble_eq_true rfl, Nat.le_of_ble_eq_true rfl⟩ rfl (Nat.le_of_ble_eq_true rfl) (by have := hle.1; have := hle.2; omega) zw_694 zw_695 zw_696 zc_0.1 hb0 hk0 rfl d_Lw_law_146 ?_
  refine li_eq (lv' := [(4, .int (nI n)), (3, .ref (bs + 62)), (2, .ref (bs + 28)), (1, .ref (bs + 0)), (0, .ref b)]) (st' := [.int r]) (cells' := S2.2.1) (slots' := S2.2.2) rfl rfl (by have := hle.1; omega) (by have := hle.2; omega) ?_
  refine li_aload_n C d_Lw_law_149 rfl 2 rfl ?_
  refine li_cv2 (n := 0) (res := (some (.int r))) (As := []) (st := [.int r]) (M2 := Mm1) C hbs (c_Md_read (out := (r, Mm1)) h2 lw_28 lw_k28) zw_701 zw_18 (by decide +kernel) ⟨Nat.le_of_ble_eq_true rfl, Nat.le_of_ble_eq_true rfl⟩ rfl (Nat.le_of_ble_eq_true rfl) hroom1 zw_698 zw_699 zw_700 zc_9.1 lw_28 lw_k28 rfl d_Lw_law_150 ?_
  refine li_icmpeqT (tgt := 745) C d_Lw_law_153 (by decide) rfl ?_
  refine li_sub [0, 1, 2, 3, 4] (lv' := [(4, .int (nI n)), (3, .ref (bs + 62)), (2, .ref (bs + 28)), (1, .ref (bs + 0)), (0, .ref b)]) rfl ?_
  exact kk
set_option maxHeartbeats 4000000 in
set_option maxRecDepth 100000 in
theorem lwc_object {p : Program} {l : Launch} {e : Env} {s : State} {m : MethodId} {b : Nat} {below : List Frame} {meth : Method} {c : Code} {D : zzD} {bs : Nat} {Sc : zzS} {Mc Mm : zzM} (C : lwK p s m b c D) (hbs : bs = s.heap.size) {L : Nat} {xs : Nat → Int32} (hX0 : va_X b L xs s s.heap) (hbl : b < s.heap.size) (hL : L ≤ 2560) {n : Nat} (hn5 : n + 5 ≤ L) (hroom : Sc.2.1 ≤ 601024 ∧ Sc.2.2 ≤ 7293034) (hb0 : 0 < Sc.2.1) (hk0 : zzk Sc 0 = 10) {Mc1 Mm1 : zzM} {r : Int32} (h1 : F_Bs_object Sc Mc 0 (xs (n + 1)) = some (r, Mc1)) (h2 : F_Md_object lwSm Mm 28 (xs (n + 1)) = some (r, Mm1)) (kk : lwB p l e s m b below meth c (lwP D bs Sc Mc1 lwSm Mm1) Sc.2.1 Sc.2.2 745 [(4, .int (nI n)), (3, .ref (bs + 62)), (2, .ref (bs + 28)), (1, .ref (bs + 0)), (0, .ref b)] []) : lwB p l e s m b below meth c (lwP D bs Sc Mc lwSm Mm) Sc.2.1 Sc.2.2 158 [(4, .int (nI n)), (3, .ref (bs + 62)), (2, .ref (bs + 28)), (1, .ref (bs + 0)), (0, .ref b)] [] := by
  refine li_aload_n C d_Lw_law_158 rfl 3 rfl ?_
  refine li_arg (k := 1) C hX0 hbl hL (by decide) (by omega) 4 0 rfl rfl d_Lw_law_159 d_Lw_law_160 d_Lw_law_162 d_Lw_law_163 d_Lw_law_164 ?_
  refine li_cv1 (n := 1) (res := (some (.int r))) (As := [.int (xs (n + 1))]) (st := []) (M2 := Mc1) C hbs (c_Bs_object (out := (r, Mc1)) h1 hb0 hk0) zw_705 zw_659 (by decide +kernel) ⟨Nat.le_of_ble_eq_true rfl, Nat.le_of_ble_eq_true rfl⟩ rfl (Nat.le_of_ble_eq_true rfl) hroom zw_702 zw_703 zw_704 zc_0.1 hb0 hk0 rfl d_Lw_law_165 ?_
  refine li_aload_n C d_Lw_law_168 rfl 2 rfl ?_
  refine li_arg (k := 1) C hX0 hbl hL (by decide) (by omega) 4 0 rfl rfl d_Lw_law_169 d_Lw_law_170 d_Lw_law_172 d_Lw_law_173 d_Lw_law_174 ?_
  refine li_cv2 (n := 1) (res := (some (.int r))) (As := [.int (xs (n + 1))]) (st := [.int r]) (M2 := Mm1) C hbs (c_Md_object (out := (r, Mm1)) h2 lw_28 lw_k28) zw_709 zw_18 (by decide +kernel) ⟨Nat.le_of_ble_eq_true rfl, Nat.le_of_ble_eq_true rfl⟩ rfl (Nat.le_of_ble_eq_true rfl) hroom zw_706 zw_707 zw_708 zc_9.1 lw_28 lw_k28 rfl d_Lw_law_175 ?_
  refine li_icmpeqT (tgt := 745) C d_Lw_law_178 (by decide) rfl ?_
  refine li_sub [0, 1, 2, 3, 4] (lv' := [(4, .int (nI n)), (3, .ref (bs + 62)), (2, .ref (bs + 28)), (1, .ref (bs + 0)), (0, .ref b)]) rfl ?_
  exact kk
set_option maxHeartbeats 4000000 in
set_option maxRecDepth 100000 in
theorem lwc_field {p : Program} {l : Launch} {e : Env} {s : State} {m : MethodId} {b : Nat} {below : List Frame} {meth : Method} {c : Code} {D : zzD} {bs : Nat} {Sc : zzS} {Mc Mm : zzM} (C : lwK p s m b c D) (hbs : bs = s.heap.size) {L : Nat} {xs : Nat → Int32} (hX0 : va_X b L xs s s.heap) (hbl : b < s.heap.size) (hL : L ≤ 2560) {n : Nat} (hn5 : n + 5 ≤ L) (hroom : Sc.2.1 ≤ 601024 ∧ Sc.2.2 ≤ 7293034) (hb0 : 0 < Sc.2.1) (hk0 : zzk Sc 0 = 10) {X : State → Prop} (hXs : zzStab bs X) (hX : X s) {Mc1 Mm1 : zzM} {r : Int32} (ho : 62 < Sc.2.1) (hko : zzk Sc 62 = 2) (hno : zzn Sc 62 = 1) (h1 : F_Lw_field Sc Mc (some 0) (xs (n + 1)) (xs (n + 2)) (lwLong (xs (n + 3)) (xs (n + 4))) (some 62) = some (0, Mc1)) (h2 : F_Md_field lwSm Mm 28 (xs (n + 1)) (xs (n + 2)) (lwLong (xs (n + 3)) (xs (n + 4))) = some (r, Mm1)) (ht : F_Md_thrown lwSm Mm1 28 = some (0, Mm1)) (hout : zzL Mc1 62 0 = (if r = 0 then (0 : Int64) else 1)) (kk : lwB p l e s m b below meth c (lwP D bs Sc Mc1 lwSm Mm1) Sc.2.1 Sc.2.2 745 [(4, .int (nI n)), (3, .ref (bs + 62)), (2, .ref (bs + 28)), (1, .ref (bs + 0)), (0, .ref b)] []) : lwB p l e s m b below meth c (lwP D bs Sc Mc lwSm Mm) Sc.2.1 Sc.2.2 183 [(4, .int (nI n)), (3, .ref (bs + 62)), (2, .ref (bs + 28)), (1, .ref (bs + 0)), (0, .ref b)] [] := by
  unfold lwLong at h1 h2
  refine li_aload_n C d_Lw_law_183 rfl 3 rfl ?_
  refine li_arg (k := 1) C hX0 hbl hL (by decide) (by omega) 4 0 rfl rfl d_Lw_law_184 d_Lw_law_185 d_Lw_law_187 d_Lw_law_188 d_Lw_law_189 ?_
  refine li_arg (k := 2) C hX0 hbl hL (by decide) (by omega) 4 0 rfl rfl d_Lw_law_190 d_Lw_law_191 d_Lw_law_193 d_Lw_law_194 d_Lw_law_195 ?_
  refine li_arg (k := 3) C hX0 hbl hL (by decide) (by omega) 4 0 rfl rfl d_Lw_law_196 d_Lw_law_197 d_Lw_law_199 d_Lw_law_200 d_Lw_law_201 ?_
  refine li_i2l C d_Lw_law_202 rfl ?_
  refine li_bipush (v := 32) C d_Lw_law_203 (by decide) ?_
  refine li_lshl C d_Lw_law_205 rfl ?_
  refine li_arg (k := 4) C hX0 hbl hL (by decide) (by omega) 4 0 rfl rfl d_Lw_law_206 d_Lw_law_207 d_Lw_law_209 d_Lw_law_210 d_Lw_law_211 ?_
  refine li_i2l C d_Lw_law_212 rfl ?_
  refine li_ldc2 (v := 4294967295) C zw_710 d_Lw_law_213 ?_
  refine li_land C d_Lw_law_216 rfl ?_
  refine li_lor C d_Lw_law_217 rfl ?_
  refine li_aload_n C d_Lw_law_218 rfl 1 rfl ?_
  refine li_h (n := 5) (r := 0) (As := [zzrf bs (some 0), .int (xs (n + 1)), .int (xs (n + 2)), .long (((((xs (n + 3))).toInt64) <<< (((32 : Int32)).toInt64 &&& 63)) ||| ((((xs (n + 4))).toInt64) &&& (4294967295 : Int64))), zzrf bs (some 62)]) (st := []) (S2 := Sc) (M2 := Mc1) (mc := 0) (ms := 0) C hbs hXs hX (lw_strong (c_Lw_field (out := (0, Mc1)) h1)) zw_681 zw_711 (by decide +kernel) ⟨Nat.le_of_ble_eq_true rfl, Nat.le_of_ble_eq_true rfl⟩ rfl (Nat.le_of_ble_eq_true rfl) hroom zw_712 zw_713 rfl d_Lw_law_219 ?_
  refine li_istore (lv' := [(5, .int (0 : Int32)), (4, .int (nI n)), (3, .ref (bs + 62)), (2, .ref (bs + 28)), (1, .ref (bs + 0)), (0, .ref b)]) C d_Lw_law_222 (by decide) rfl ?_
  refine li_aload_n C d_Lw_law_224 rfl 3 rfl ?_
  refine li_arg (k := 1) C hX0 hbl hL (by decide) (by omega) 5 1 rfl rfl d_Lw_law_225 d_Lw_law_226 d_Lw_law_228 d_Lw_law_229 d_Lw_law_230 ?_
  refine li_arg (k := 2) C hX0 hbl hL (by decide) (by omega) 5 1 rfl rfl d_Lw_law_231 d_Lw_law_232 d_Lw_law_234 d_Lw_law_235 d_Lw_law_236 ?_
  refine li_arg (k := 3) C hX0 hbl hL (by decide) (by omega) 5 1 rfl rfl d_Lw_law_237 d_Lw_law_238 d_Lw_law_240 d_Lw_law_241 d_Lw_law_242 ?_
  refine li_i2l C d_Lw_law_243 rfl ?_
  refine li_bipush (v := 32) C d_Lw_law_244 (by decide) ?_
  refine li_lshl C d_Lw_law_246 rfl ?_
  refine li_arg (k := 4) C hX0 hbl hL (by decide) (by omega) 5 1 rfl rfl d_Lw_law_247 d_Lw_law_248 d_Lw_law_250 d_Lw_law_251 d_Lw_law_252 ?_
  refine li_i2l C d_Lw_law_253 rfl ?_
  refine li_ldc2 (v := 4294967295) C zw_710 d_Lw_law_254 ?_
  refine li_land C d_Lw_law_257 rfl ?_
  refine li_lor C d_Lw_law_258 rfl ?_
  refine li_cv2 (n := 3) (res := (some (.int r))) (As := [.int (xs (n + 1)), .int (xs (n + 2)), .long (((((xs (n + 3))).toInt64) <<< (((32 : Int32)).toInt64 &&& 63)) ||| ((((xs (n + 4))).toInt64) &&& (4294967295 : Int64)))]) (st := []) (M2 := Mm1) C hbs (c_Md_field (out := (r, Mm1)) h2 lw_28 lw_k28) zw_717 zw_18 (by decide +kernel) ⟨Nat.le_of_ble_eq_true rfl, Nat.le_of_ble_eq_true rfl⟩ rfl (Nat.le_of_ble_eq_true rfl) hroom zw_714 zw_715 zw_716 zc_9.1 lw_28 lw_k28 rfl d_Lw_law_259 ?_
  refine li_istore (lv' := [(6, .int r), (5, .int (0 : Int32)), (4, .int (nI n)), (3, .ref (bs + 62)), (2, .ref (bs + 28)), (1, .ref (bs + 0)), (0, .ref b)]) C d_Lw_law_262 (by decide) rfl ?_
  refine li_aload_n C d_Lw_law_264 rfl 4 rfl ?_
  refine li_cv2 (n := 0) (res := (some (.int (0 : Int32)))) (As := []) (st := []) (M2 := Mm1) C hbs (c_Md_thrown (out := ((0 : Int32), Mm1)) ht lw_28 lw_k28) zw_721 zw_18 (by decide +kernel) ⟨Nat.le_of_ble_eq_true rfl, Nat.le_of_ble_eq_true rfl⟩ rfl (Nat.le_of_ble_eq_true rfl) hroom zw_718 zw_719 zw_720 zc_9.1 lw_28 lw_k28 rfl d_Lw_law_265 ?_
  refine li_iload C d_Lw_law_268 1 rfl ?_
  refine li_icmpeqT (tgt := 275) C d_Lw_law_270 (by decide) rfl ?_
  refine li_iload C d_Lw_law_275 1 rfl ?_
  refine li_ifneF (tgt := 299) C d_Lw_law_277 (by decide) rfl ?_
  refine li_aload_n C d_Lw_law_280 rfl 3 rfl ?_
  refine li_iconst (v := 0) C d_Lw_law_281 (by decide) ?_
  refine li_out C ho hko hno (v := (if r = 0 then (0 : Int64) else 1)) (hout) d_Lw_law_282 ?_
  refine li_iload C d_Lw_law_283 0 rfl ?_
  by_cases hz : r = 0
  · refine li_ifeqT (tgt := 292) C d_Lw_law_285 (by decide) hz ?_
    refine li_lconst (v := 0) C d_Lw_law_292 (by decide) ?_
    refine li_lcmp (v := 0) C d_Lw_law_293 (lw_cmp (if_pos hz)) ?_
    refine li_ifeqT (tgt := 299) C d_Lw_law_294 (by decide) rfl ?_
    refine li_goto (tgt := 745) C d_Lw_law_299 (by decide) ?_
    refine li_sub [2, 3, 4, 5, 6] (lv' := [(4, .int (nI n)), (3, .ref (bs + 62)), (2, .ref (bs + 28)), (1, .ref (bs + 0)), (0, .ref b)]) rfl ?_
    exact kk
  · refine li_ifeqF (tgt := 292) C d_Lw_law_285 (by decide) hz ?_
    refine li_lconst (v := 1) C d_Lw_law_288 (by decide) ?_
    refine li_goto (tgt := 293) C d_Lw_law_289 (by decide) ?_
    refine li_lcmp (v := 0) C d_Lw_law_293 (lw_cmp (if_neg hz)) ?_
    refine li_ifeqT (tgt := 299) C d_Lw_law_294 (by decide) rfl ?_
    refine li_goto (tgt := 745) C d_Lw_law_299 (by decide) ?_
    refine li_sub [2, 3, 4, 5, 6] (lv' := [(4, .int (nI n)), (3, .ref (bs + 62)), (2, .ref (bs + 28)), (1, .ref (bs + 0)), (0, .ref b)]) rfl ?_
    exact kk
set_option maxHeartbeats 4000000 in
set_option maxRecDepth 100000 in
theorem lwcT_field {p : Program} {l : Launch} {e : Env} {s : State} {m : MethodId} {b : Nat} {below : List Frame} {meth : Method} {c : Code} {D : zzD} {bs : Nat} {Sc : zzS} {Mc Mm : zzM} (C : lwK p s m b c D) (hbs : bs = s.heap.size) {L : Nat} {xs : Nat → Int32} (hX0 : va_X b L xs s s.heap) (hbl : b < s.heap.size) (hL : L ≤ 2560) {n : Nat} (hn5 : n + 5 ≤ L) (hroom : Sc.2.1 ≤ 601024 ∧ Sc.2.2 ≤ 7293034) (hb0 : 0 < Sc.2.1) (hk0 : zzk Sc 0 = 10) {X : State → Prop} (hXs : zzStab bs X) (hX : X s) {Mc1 Mm1 : zzM} {r : Int32} {sa : Nat} (hl0 : l.stackTraces = false) (hA : ∀ q : Nat, bs + Sc.2.1 ≤ q → lwAc bs q) (hAb : ∀ q : Nat, lwAc bs q → bs ≤ q) (hroom1 : Sc.2.1 + 1 ≤ 601024 ∧ Sc.2.2 + 6 ≤ 7293034) (hZ : ∀ U : State, X U → zxW bs "BoardScript" 97 99 101 "java/lang/IndexOutOfBoundsException" "no such object or field" ["java/lang/RuntimeException", "java/lang/Exception"] sa U) (h1 : FT_Bs_field Sc Mc 0 (xs (n + 1)) (xs (n + 2)) (lwLong (xs (n + 3)) (xs (n + 4))) = some ((), Mc1)) (h2 : F_Md_field lwSm Mm 28 (xs (n + 1)) (xs (n + 2)) (lwLong (xs (n + 3)) (xs (n + 4))) = some (r, Mm1)) (ht : F_Md_thrown lwSm Mm1 28 = some (1, Mm1)) (kk : lwB p l e s m b below meth c (lwP D bs (zzjunk Sc) Mc1 lwSm Mm1) (zzjunk Sc).2.1 (zzjunk Sc).2.2 745 [(4, .int (nI n)), (3, .ref (bs + 62)), (2, .ref (bs + 28)), (1, .ref (bs + 0)), (0, .ref b)] []) : lwB p l e s m b below meth c (lwP D bs Sc Mc lwSm Mm) Sc.2.1 Sc.2.2 183 [(4, .int (nI n)), (3, .ref (bs + 62)), (2, .ref (bs + 28)), (1, .ref (bs + 0)), (0, .ref b)] [] := by
  unfold lwLong at h1 h2
  refine li_aload_n C d_Lw_law_183 rfl 3 rfl ?_
  refine li_arg (k := 1) C hX0 hbl hL (by decide) (by omega) 4 0 rfl rfl d_Lw_law_184 d_Lw_law_185 d_Lw_law_187 d_Lw_law_188 d_Lw_law_189 ?_
  refine li_arg (k := 2) C hX0 hbl hL (by decide) (by omega) 4 0 rfl rfl d_Lw_law_190 d_Lw_law_191 d_Lw_law_193 d_Lw_law_194 d_Lw_law_195 ?_
  refine li_arg (k := 3) C hX0 hbl hL (by decide) (by omega) 4 0 rfl rfl d_Lw_law_196 d_Lw_law_197 d_Lw_law_199 d_Lw_law_200 d_Lw_law_201 ?_
  refine li_i2l C d_Lw_law_202 rfl ?_
  refine li_bipush (v := 32) C d_Lw_law_203 (by decide) ?_
  refine li_lshl C d_Lw_law_205 rfl ?_
  refine li_arg (k := 4) C hX0 hbl hL (by decide) (by omega) 4 0 rfl rfl d_Lw_law_206 d_Lw_law_207 d_Lw_law_209 d_Lw_law_210 d_Lw_law_211 ?_
  refine li_i2l C d_Lw_law_212 rfl ?_
  refine li_ldc2 (v := 4294967295) C zw_710 d_Lw_law_213 ?_
  refine li_land C d_Lw_law_216 rfl ?_
  refine li_lor C d_Lw_law_217 rfl ?_
  refine li_aload_n C d_Lw_law_218 rfl 1 rfl ?_
  refine li_h (n := 5) (r := 1) (As := [.ref (bs + 0), .int (xs (n + 1)), .int (xs (n + 2)), .long (((((xs (n + 3))).toInt64) <<< (((32 : Int32)).toInt64 &&& 63)) ||| ((((xs (n + 4))).toInt64) &&& (4294967295 : Int64))), .ref (bs + 62)]) (st := []) (S2 := zzjunk Sc) (M2 := Mc1) (mc := 1) (ms := 6) C hbs hXs hX (cT_Lw_field (sa := sa) (out := ((), Mc1)) hl0 hA hAb hXs hZ h1 hb0 hk0) zw_681 zw_711 (by decide +kernel) ⟨Nat.le_of_ble_eq_true rfl, Nat.le_of_ble_eq_true rfl⟩ rfl (Nat.le_of_ble_eq_true rfl) hroom1 zw_712 zw_713 rfl d_Lw_law_219 ?_
  refine li_istore (lv' := [(5, .int (1 : Int32)), (4, .int (nI n)), (3, .ref (bs + 62)), (2, .ref (bs + 28)), (1, .ref (bs + 0)), (0, .ref b)]) C d_Lw_law_222 (by decide) rfl ?_
  refine li_aload_n C d_Lw_law_224 rfl 3 rfl ?_
  refine li_arg (k := 1) C hX0 hbl hL (by decide) (by omega) 5 1 rfl rfl d_Lw_law_225 d_Lw_law_226 d_Lw_law_228 d_Lw_law_229 d_Lw_law_230 ?_
  refine li_arg (k := 2) C hX0 hbl hL (by decide) (by omega) 5 1 rfl rfl d_Lw_law_231 d_Lw_law_232 d_Lw_law_234 d_Lw_law_235 d_Lw_law_236 ?_
  refine li_arg (k := 3) C hX0 hbl hL (by decide) (by omega) 5 1 rfl rfl d_Lw_law_237 d_Lw_law_238 d_Lw_law_240 d_Lw_law_241 d_Lw_law_242 ?_
  refine li_i2l C d_Lw_law_243 rfl ?_
  refine li_bipush (v := 32) C d_Lw_law_244 (by decide) ?_
  refine li_lshl C d_Lw_law_246 rfl ?_
  refine li_arg (k := 4) C hX0 hbl hL (by decide) (by omega) 5 1 rfl rfl d_Lw_law_247 d_Lw_law_248 d_Lw_law_250 d_Lw_law_251 d_Lw_law_252 ?_
  refine li_i2l C d_Lw_law_253 rfl ?_
  refine li_ldc2 (v := 4294967295) C zw_710 d_Lw_law_254 ?_
  refine li_land C d_Lw_law_257 rfl ?_
  refine li_lor C d_Lw_law_258 rfl ?_
  refine li_cv2 (n := 3) (res := (some (.int r))) (As := [.int (xs (n + 1)), .int (xs (n + 2)), .long (((((xs (n + 3))).toInt64) <<< (((32 : Int32)).toInt64 &&& 63)) ||| ((((xs (n + 4))).toInt64) &&& (4294967295 : Int64)))]) (st := []) (M2 := Mm1) C hbs (c_Md_field (out := (r, Mm1)) h2 lw_28 lw_k28) zw_717 zw_18 (by decide +kernel) ⟨Nat.le_of_ble_eq_true rfl, Nat.le_of_ble_eq_true rfl⟩ rfl (Nat.le_of_ble_eq_true rfl) hroom1 zw_714 zw_715 zw_716 zc_9.1 lw_28 lw_k28 rfl d_Lw_law_259 ?_
  refine li_istore (lv' := [(6, .int r), (5, .int (1 : Int32)), (4, .int (nI n)), (3, .ref (bs + 62)), (2, .ref (bs + 28)), (1, .ref (bs + 0)), (0, .ref b)]) C d_Lw_law_262 (by decide) rfl ?_
  refine li_aload_n C d_Lw_law_264 rfl 4 rfl ?_
  refine li_cv2 (n := 0) (res := (some (.int (1 : Int32)))) (As := []) (st := []) (M2 := Mm1) C hbs (c_Md_thrown (out := ((1 : Int32), Mm1)) ht lw_28 lw_k28) zw_721 zw_18 (by decide +kernel) ⟨Nat.le_of_ble_eq_true rfl, Nat.le_of_ble_eq_true rfl⟩ rfl (Nat.le_of_ble_eq_true rfl) hroom1 zw_718 zw_719 zw_720 zc_9.1 lw_28 lw_k28 rfl d_Lw_law_265 ?_
  refine li_iload C d_Lw_law_268 1 rfl ?_
  refine li_icmpeqT (tgt := 275) C d_Lw_law_270 (by decide) rfl ?_
  refine li_iload C d_Lw_law_275 1 rfl ?_
  refine li_ifneT (tgt := 299) C d_Lw_law_277 (by decide) (by decide) ?_
  refine li_goto (tgt := 745) C d_Lw_law_299 (by decide) ?_
  refine li_sub [2, 3, 4, 5, 6] (lv' := [(4, .int (nI n)), (3, .ref (bs + 62)), (2, .ref (bs + 28)), (1, .ref (bs + 0)), (0, .ref b)]) rfl ?_
  exact kk
set_option maxHeartbeats 4000000 in
set_option maxRecDepth 100000 in
theorem lwc_run {p : Program} {l : Launch} {e : Env} {s : State} {m : MethodId} {b : Nat} {below : List Frame} {meth : Method} {c : Code} {D : zzD} {bs : Nat} {Sc : zzS} {Mc Mm : zzM} (C : lwK p s m b c D) (hbs : bs = s.heap.size) {L : Nat} {xs : Nat → Int32} (hX0 : va_X b L xs s s.heap) (hbl : b < s.heap.size) (hL : L ≤ 2560) {n : Nat} (hn5 : n + 5 ≤ L) (hroom : Sc.2.1 ≤ 601024 ∧ Sc.2.2 ≤ 7293034) (hb0 : 0 < Sc.2.1) (hk0 : zzk Sc 0 = 10) {X : State → Prop} (hXs : zzStab bs X) (hX : X s) {Mc1 Mm1 : zzM} {r : Int32} (ho : 62 < Sc.2.1) (hko : zzk Sc 62 = 2) (hno : zzn Sc 62 = 1) (h1 : F_Lw_run Sc Mc (some 0) (lwLong (xs (n + 1)) (xs (n + 2))) (some 62) = some (0, Mc1)) (h2 : F_Md_run lwSm Mm 28 (lwLong (xs (n + 1)) (xs (n + 2))) = some (r, Mm1)) (ht : F_Md_thrown lwSm Mm1 28 = some (0, Mm1)) (hout : zzL Mc1 62 0 = r.toInt64) (kk : lwB p l e s m b below meth c (lwP D bs Sc Mc1 lwSm Mm1) Sc.2.1 Sc.2.2 745 [(4, .int (nI n)), (3, .ref (bs + 62)), (2, .ref (bs + 28)), (1, .ref (bs + 0)), (0, .ref b)] []) : lwB p l e s m b below meth c (lwP D bs Sc Mc lwSm Mm) Sc.2.1 Sc.2.2 302 [(4, .int (nI n)), (3, .ref (bs + 62)), (2, .ref (bs + 28)), (1, .ref (bs + 0)), (0, .ref b)] [] := by
  unfold lwLong at h1 h2
  refine li_aload_n C d_Lw_law_302 rfl 3 rfl ?_
  refine li_arg (k := 1) C hX0 hbl hL (by decide) (by omega) 4 0 rfl rfl d_Lw_law_303 d_Lw_law_304 d_Lw_law_306 d_Lw_law_307 d_Lw_law_308 ?_
  refine li_i2l C d_Lw_law_309 rfl ?_
  refine li_bipush (v := 32) C d_Lw_law_310 (by decide) ?_
  refine li_lshl C d_Lw_law_312 rfl ?_
  refine li_arg (k := 2) C hX0 hbl hL (by decide) (by omega) 4 0 rfl rfl d_Lw_law_313 d_Lw_law_314 d_Lw_law_316 d_Lw_law_317 d_Lw_law_318 ?_
  refine li_i2l C d_Lw_law_319 rfl ?_
  refine li_ldc2 (v := 4294967295) C zw_710 d_Lw_law_320 ?_
  refine li_land C d_Lw_law_323 rfl ?_
  refine li_lor C d_Lw_law_324 rfl ?_
  refine li_aload_n C d_Lw_law_325 rfl 1 rfl ?_
  refine li_h (n := 3) (r := 0) (As := [zzrf bs (some 0), .long (((((xs (n + 1))).toInt64) <<< (((32 : Int32)).toInt64 &&& 63)) ||| ((((xs (n + 2))).toInt64) &&& (4294967295 : Int64))), zzrf bs (some 62)]) (st := []) (S2 := Sc) (M2 := Mc1) (mc := 0) (ms := 0) C hbs hXs hX (lw_strong (c_Lw_run (out := (0, Mc1)) h1)) zw_682 zw_711 (by decide +kernel) ⟨Nat.le_of_ble_eq_true rfl, Nat.le_of_ble_eq_true rfl⟩ rfl (Nat.le_of_ble_eq_true rfl) hroom zw_722 zw_723 rfl d_Lw_law_326 ?_
  refine li_istore (lv' := [(5, .int (0 : Int32)), (4, .int (nI n)), (3, .ref (bs + 62)), (2, .ref (bs + 28)), (1, .ref (bs + 0)), (0, .ref b)]) C d_Lw_law_329 (by decide) rfl ?_
  refine li_aload_n C d_Lw_law_331 rfl 3 rfl ?_
  refine li_arg (k := 1) C hX0 hbl hL (by decide) (by omega) 5 1 rfl rfl d_Lw_law_332 d_Lw_law_333 d_Lw_law_335 d_Lw_law_336 d_Lw_law_337 ?_
  refine li_i2l C d_Lw_law_338 rfl ?_
  refine li_bipush (v := 32) C d_Lw_law_339 (by decide) ?_
  refine li_lshl C d_Lw_law_341 rfl ?_
  refine li_arg (k := 2) C hX0 hbl hL (by decide) (by omega) 5 1 rfl rfl d_Lw_law_342 d_Lw_law_343 d_Lw_law_345 d_Lw_law_346 d_Lw_law_347 ?_
  refine li_i2l C d_Lw_law_348 rfl ?_
  refine li_ldc2 (v := 4294967295) C zw_710 d_Lw_law_349 ?_
  refine li_land C d_Lw_law_352 rfl ?_
  refine li_lor C d_Lw_law_353 rfl ?_
  refine li_cv2 (n := 1) (res := (some (.int r))) (As := [.long (((((xs (n + 1))).toInt64) <<< (((32 : Int32)).toInt64 &&& 63)) ||| ((((xs (n + 2))).toInt64) &&& (4294967295 : Int64)))]) (st := []) (M2 := Mm1) C hbs (c_Md_run (out := (r, Mm1)) h2 lw_28 lw_k28) zw_727 zw_18 (by decide +kernel) ⟨Nat.le_of_ble_eq_true rfl, Nat.le_of_ble_eq_true rfl⟩ rfl (Nat.le_of_ble_eq_true rfl) hroom zw_724 zw_725 zw_726 zc_9.1 lw_28 lw_k28 rfl d_Lw_law_354 ?_
  refine li_istore (lv' := [(6, .int r), (5, .int (0 : Int32)), (4, .int (nI n)), (3, .ref (bs + 62)), (2, .ref (bs + 28)), (1, .ref (bs + 0)), (0, .ref b)]) C d_Lw_law_357 (by decide) rfl ?_
  refine li_aload_n C d_Lw_law_359 rfl 4 rfl ?_
  refine li_cv2 (n := 0) (res := (some (.int (0 : Int32)))) (As := []) (st := []) (M2 := Mm1) C hbs (c_Md_thrown (out := ((0 : Int32), Mm1)) ht lw_28 lw_k28) zw_721 zw_18 (by decide +kernel) ⟨Nat.le_of_ble_eq_true rfl, Nat.le_of_ble_eq_true rfl⟩ rfl (Nat.le_of_ble_eq_true rfl) hroom zw_718 zw_719 zw_720 zc_9.1 lw_28 lw_k28 rfl d_Lw_law_360 ?_
  refine li_iload C d_Lw_law_363 1 rfl ?_
  refine li_icmpeqT (tgt := 370) C d_Lw_law_365 (by decide) rfl ?_
  refine li_iload C d_Lw_law_370 1 rfl ?_
  refine li_ifneF (tgt := 387) C d_Lw_law_372 (by decide) rfl ?_
  refine li_aload_n C d_Lw_law_375 rfl 3 rfl ?_
  refine li_iconst (v := 0) C d_Lw_law_376 (by decide) ?_
  refine li_out C ho hko hno (v := r.toInt64) (hout) d_Lw_law_377 ?_
  refine li_iload C d_Lw_law_378 0 rfl ?_
  refine li_i2l C d_Lw_law_380 rfl ?_
  refine li_lcmp (v := 0) C d_Lw_law_381 (lw_cmp (rfl)) ?_
  refine li_ifeqT (tgt := 387) C d_Lw_law_382 (by decide) rfl ?_
  refine li_goto (tgt := 745) C d_Lw_law_387 (by decide) ?_
  refine li_sub [2, 3, 4, 5, 6] (lv' := [(4, .int (nI n)), (3, .ref (bs + 62)), (2, .ref (bs + 28)), (1, .ref (bs + 0)), (0, .ref b)]) rfl ?_
  exact kk
set_option maxHeartbeats 4000000 in
set_option maxRecDepth 100000 in
theorem lwcT_run {p : Program} {l : Launch} {e : Env} {s : State} {m : MethodId} {b : Nat} {below : List Frame} {meth : Method} {c : Code} {D : zzD} {bs : Nat} {Sc : zzS} {Mc Mm : zzM} (C : lwK p s m b c D) (hbs : bs = s.heap.size) {L : Nat} {xs : Nat → Int32} (hX0 : va_X b L xs s s.heap) (hbl : b < s.heap.size) (hL : L ≤ 2560) {n : Nat} (hn5 : n + 5 ≤ L) (hroom : Sc.2.1 ≤ 601024 ∧ Sc.2.2 ≤ 7293034) (hb0 : 0 < Sc.2.1) (hk0 : zzk Sc 0 = 10) {X : State → Prop} (hXs : zzStab bs X) (hX : X s) {Mc1 Mm1 : zzM} {r : Int32} {sa : Nat} (hl0 : l.stackTraces = false) (hA : ∀ q : Nat, bs + Sc.2.1 ≤ q → lwAc bs q) (hAb : ∀ q : Nat, lwAc bs q → bs ≤ q) (hroom1 : Sc.2.1 + 1 ≤ 601024 ∧ Sc.2.2 + 6 ≤ 7293034) (hZ : ∀ U : State, X U → zxW bs "BoardScript" 110 112 114 "java/lang/IllegalArgumentException" "steps are not 1 to 300" ["java/lang/RuntimeException", "java/lang/Exception"] sa U) (h1 : FT_Bs_run Sc Mc 0 (lwLong (xs (n + 1)) (xs (n + 2))) = some ((), Mc1)) (h2 : F_Md_run lwSm Mm 28 (lwLong (xs (n + 1)) (xs (n + 2))) = some (r, Mm1)) (ht : F_Md_thrown lwSm Mm1 28 = some (1, Mm1)) (kk : lwB p l e s m b below meth c (lwP D bs (zzjunk Sc) Mc1 lwSm Mm1) (zzjunk Sc).2.1 (zzjunk Sc).2.2 745 [(4, .int (nI n)), (3, .ref (bs + 62)), (2, .ref (bs + 28)), (1, .ref (bs + 0)), (0, .ref b)] []) : lwB p l e s m b below meth c (lwP D bs Sc Mc lwSm Mm) Sc.2.1 Sc.2.2 302 [(4, .int (nI n)), (3, .ref (bs + 62)), (2, .ref (bs + 28)), (1, .ref (bs + 0)), (0, .ref b)] [] := by
  unfold lwLong at h1 h2
  refine li_aload_n C d_Lw_law_302 rfl 3 rfl ?_
  refine li_arg (k := 1) C hX0 hbl hL (by decide) (by omega) 4 0 rfl rfl d_Lw_law_303 d_Lw_law_304 d_Lw_law_306 d_Lw_law_307 d_Lw_law_308 ?_
  refine li_i2l C d_Lw_law_309 rfl ?_
  refine li_bipush (v := 32) C d_Lw_law_310 (by decide) ?_
  refine li_lshl C d_Lw_law_312 rfl ?_
  refine li_arg (k := 2) C hX0 hbl hL (by decide) (by omega) 4 0 rfl rfl d_Lw_law_313 d_Lw_law_314 d_Lw_law_316 d_Lw_law_317 d_Lw_law_318 ?_
  refine li_i2l C d_Lw_law_319 rfl ?_
  refine li_ldc2 (v := 4294967295) C zw_710 d_Lw_law_320 ?_
  refine li_land C d_Lw_law_323 rfl ?_
  refine li_lor C d_Lw_law_324 rfl ?_
  refine li_aload_n C d_Lw_law_325 rfl 1 rfl ?_
  refine li_h (n := 3) (r := 1) (As := [.ref (bs + 0), .long (((((xs (n + 1))).toInt64) <<< (((32 : Int32)).toInt64 &&& 63)) ||| ((((xs (n + 2))).toInt64) &&& (4294967295 : Int64))), .ref (bs + 62)]) (st := []) (S2 := zzjunk Sc) (M2 := Mc1) (mc := 1) (ms := 6) C hbs hXs hX (cT_Lw_run (sa := sa) (out := ((), Mc1)) hl0 hA hAb hXs hZ h1 hb0 hk0) zw_682 zw_711 (by decide +kernel) ⟨Nat.le_of_ble_eq_true rfl, Nat.le_of_ble_eq_true rfl⟩ rfl (Nat.le_of_ble_eq_true rfl) hroom1 zw_722 zw_723 rfl d_Lw_law_326 ?_
  refine li_istore (lv' := [(5, .int (1 : Int32)), (4, .int (nI n)), (3, .ref (bs + 62)), (2, .ref (bs + 28)), (1, .ref (bs + 0)), (0, .ref b)]) C d_Lw_law_329 (by decide) rfl ?_
  refine li_aload_n C d_Lw_law_331 rfl 3 rfl ?_
  refine li_arg (k := 1) C hX0 hbl hL (by decide) (by omega) 5 1 rfl rfl d_Lw_law_332 d_Lw_law_333 d_Lw_law_335 d_Lw_law_336 d_Lw_law_337 ?_
  refine li_i2l C d_Lw_law_338 rfl ?_
  refine li_bipush (v := 32) C d_Lw_law_339 (by decide) ?_
  refine li_lshl C d_Lw_law_341 rfl ?_
  refine li_arg (k := 2) C hX0 hbl hL (by decide) (by omega) 5 1 rfl rfl d_Lw_law_342 d_Lw_law_343 d_Lw_law_345 d_Lw_law_346 d_Lw_law_347 ?_
  refine li_i2l C d_Lw_law_348 rfl ?_
  refine li_ldc2 (v := 4294967295) C zw_710 d_Lw_law_349 ?_
  refine li_land C d_Lw_law_352 rfl ?_
  refine li_lor C d_Lw_law_353 rfl ?_
  refine li_cv2 (n := 1) (res := (some (.int r))) (As := [.long (((((xs (n + 1))).toInt64) <<< (((32 : Int32)).toInt64 &&& 63)) ||| ((((xs (n + 2))).toInt64) &&& (4294967295 : Int64)))]) (st := []) (M2 := Mm1) C hbs (c_Md_run (out := (r, Mm1)) h2 lw_28 lw_k28) zw_727 zw_18 (by decide +kernel) ⟨Nat.le_of_ble_eq_true rfl, Nat.le_of_ble_eq_true rfl⟩ rfl (Nat.le_of_ble_eq_true rfl) hroom1 zw_724 zw_725 zw_726 zc_9.1 lw_28 lw_k28 rfl d_Lw_law_354 ?_
  refine li_istore (lv' := [(6, .int r), (5, .int (1 : Int32)), (4, .int (nI n)), (3, .ref (bs + 62)), (2, .ref (bs + 28)), (1, .ref (bs + 0)), (0, .ref b)]) C d_Lw_law_357 (by decide) rfl ?_
  refine li_aload_n C d_Lw_law_359 rfl 4 rfl ?_
  refine li_cv2 (n := 0) (res := (some (.int (1 : Int32)))) (As := []) (st := []) (M2 := Mm1) C hbs (c_Md_thrown (out := ((1 : Int32), Mm1)) ht lw_28 lw_k28) zw_721 zw_18 (by decide +kernel) ⟨Nat.le_of_ble_eq_true rfl, Nat.le_of_ble_eq_true rfl⟩ rfl (Nat.le_of_ble_eq_true rfl) hroom1 zw_718 zw_719 zw_720 zc_9.1 lw_28 lw_k28 rfl d_Lw_law_360 ?_
  refine li_iload C d_Lw_law_363 1 rfl ?_
  refine li_icmpeqT (tgt := 370) C d_Lw_law_365 (by decide) rfl ?_
  refine li_iload C d_Lw_law_370 1 rfl ?_
  refine li_ifneT (tgt := 387) C d_Lw_law_372 (by decide) (by decide) ?_
  refine li_goto (tgt := 745) C d_Lw_law_387 (by decide) ?_
  refine li_sub [2, 3, 4, 5, 6] (lv' := [(4, .int (nI n)), (3, .ref (bs + 62)), (2, .ref (bs + 28)), (1, .ref (bs + 0)), (0, .ref b)]) rfl ?_
  exact kk
set_option maxHeartbeats 4000000 in
set_option maxRecDepth 100000 in
theorem lwc_at {p : Program} {l : Launch} {e : Env} {s : State} {m : MethodId} {b : Nat} {below : List Frame} {meth : Method} {c : Code} {D : zzD} {bs : Nat} {Sc : zzS} {Mc Mm : zzM} (C : lwK p s m b c D) (hbs : bs = s.heap.size) {L : Nat} {xs : Nat → Int32} (hX0 : va_X b L xs s s.heap) (hbl : b < s.heap.size) (hL : L ≤ 2560) {n : Nat} (hn5 : n + 5 ≤ L) (hroom : Sc.2.1 ≤ 601024 ∧ Sc.2.2 ≤ 7293034) (hb0 : 0 < Sc.2.1) (hk0 : zzk Sc 0 = 10) {X : State → Prop} (hXs : zzStab bs X) (hX : X s) {Mc1 Mm1 : zzM} {r : Int64} (ho : 62 < Sc.2.1) (hko : zzk Sc 62 = 2) (hno : zzn Sc 62 = 1) (h1 : F_Lw_at Sc Mc (some 0) (xs (n + 1)) (xs (n + 2)) (some 62) = some (0, Mc1)) (h2 : F_Md_at lwSm Mm 28 (xs (n + 1)) (xs (n + 2)) = some (r, Mm1)) (ht : F_Md_thrown lwSm Mm1 28 = some (0, Mm1)) (hout : zzL Mc1 62 0 = r) (kk : lwB p l e s m b below meth c (lwP D bs Sc Mc1 lwSm Mm1) Sc.2.1 Sc.2.2 745 [(4, .int (nI n)), (3, .ref (bs + 62)), (2, .ref (bs + 28)), (1, .ref (bs + 0)), (0, .ref b)] []) : lwB p l e s m b below meth c (lwP D bs Sc Mc lwSm Mm) Sc.2.1 Sc.2.2 390 [(4, .int (nI n)), (3, .ref (bs + 62)), (2, .ref (bs + 28)), (1, .ref (bs + 0)), (0, .ref b)] [] := by
  refine li_aload_n C d_Lw_law_390 rfl 3 rfl ?_
  refine li_arg (k := 1) C hX0 hbl hL (by decide) (by omega) 4 0 rfl rfl d_Lw_law_391 d_Lw_law_392 d_Lw_law_394 d_Lw_law_395 d_Lw_law_396 ?_
  refine li_arg (k := 2) C hX0 hbl hL (by decide) (by omega) 4 0 rfl rfl d_Lw_law_397 d_Lw_law_398 d_Lw_law_400 d_Lw_law_401 d_Lw_law_402 ?_
  refine li_aload_n C d_Lw_law_403 rfl 1 rfl ?_
  refine li_h (n := 4) (r := 0) (As := [zzrf bs (some 0), .int (xs (n + 1)), .int (xs (n + 2)), zzrf bs (some 62)]) (st := []) (S2 := Sc) (M2 := Mc1) (mc := 0) (ms := 0) C hbs hXs hX (lw_strong (c_Lw_at (out := (0, Mc1)) h1)) zw_683 zw_711 (by decide +kernel) ⟨Nat.le_of_ble_eq_true rfl, Nat.le_of_ble_eq_true rfl⟩ rfl (Nat.le_of_ble_eq_true rfl) hroom zw_728 zw_729 rfl d_Lw_law_404 ?_
  refine li_istore (lv' := [(5, .int (0 : Int32)), (4, .int (nI n)), (3, .ref (bs + 62)), (2, .ref (bs + 28)), (1, .ref (bs + 0)), (0, .ref b)]) C d_Lw_law_407 (by decide) rfl ?_
  refine li_aload_n C d_Lw_law_409 rfl 3 rfl ?_
  refine li_arg (k := 1) C hX0 hbl hL (by decide) (by omega) 5 1 rfl rfl d_Lw_law_410 d_Lw_law_411 d_Lw_law_413 d_Lw_law_414 d_Lw_law_415 ?_
  refine li_arg (k := 2) C hX0 hbl hL (by decide) (by omega) 5 1 rfl rfl d_Lw_law_416 d_Lw_law_417 d_Lw_law_419 d_Lw_law_420 d_Lw_law_421 ?_
  refine li_cv2 (n := 2) (res := (some (.long r))) (As := [.int (xs (n + 1)), .int (xs (n + 2))]) (st := []) (M2 := Mm1) C hbs (c_Md_at (out := (r, Mm1)) h2 lw_28 lw_k28) zw_733 zw_18 (by decide +kernel) ⟨Nat.le_of_ble_eq_true rfl, Nat.le_of_ble_eq_true rfl⟩ rfl (Nat.le_of_ble_eq_true rfl) hroom zw_730 zw_731 zw_732 zc_9.1 lw_28 lw_k28 rfl d_Lw_law_422 ?_
  refine li_lstore (lv' := [(6, .long r), (5, .int (0 : Int32)), (4, .int (nI n)), (3, .ref (bs + 62)), (2, .ref (bs + 28)), (1, .ref (bs + 0)), (0, .ref b)]) C d_Lw_law_425 (by decide) rfl ?_
  refine li_aload_n C d_Lw_law_427 rfl 4 rfl ?_
  refine li_cv2 (n := 0) (res := (some (.int (0 : Int32)))) (As := []) (st := []) (M2 := Mm1) C hbs (c_Md_thrown (out := ((0 : Int32), Mm1)) ht lw_28 lw_k28) zw_721 zw_18 (by decide +kernel) ⟨Nat.le_of_ble_eq_true rfl, Nat.le_of_ble_eq_true rfl⟩ rfl (Nat.le_of_ble_eq_true rfl) hroom zw_718 zw_719 zw_720 zc_9.1 lw_28 lw_k28 rfl d_Lw_law_428 ?_
  refine li_iload C d_Lw_law_431 1 rfl ?_
  refine li_icmpeqT (tgt := 438) C d_Lw_law_433 (by decide) rfl ?_
  refine li_iload C d_Lw_law_438 1 rfl ?_
  refine li_ifneF (tgt := 454) C d_Lw_law_440 (by decide) rfl ?_
  refine li_aload_n C d_Lw_law_443 rfl 3 rfl ?_
  refine li_iconst (v := 0) C d_Lw_law_444 (by decide) ?_
  refine li_out C ho hko hno (v := r) (hout) d_Lw_law_445 ?_
  refine li_lload C d_Lw_law_446 0 rfl ?_
  refine li_lcmp (v := 0) C d_Lw_law_448 (lw_cmp (rfl)) ?_
  refine li_ifeqT (tgt := 454) C d_Lw_law_449 (by decide) rfl ?_
  refine li_goto (tgt := 745) C d_Lw_law_454 (by decide) ?_
  refine li_sub [2, 3, 4, 5, 6] (lv' := [(4, .int (nI n)), (3, .ref (bs + 62)), (2, .ref (bs + 28)), (1, .ref (bs + 0)), (0, .ref b)]) rfl ?_
  exact kk
set_option maxHeartbeats 4000000 in
set_option maxRecDepth 100000 in
theorem lwcT_at {p : Program} {l : Launch} {e : Env} {s : State} {m : MethodId} {b : Nat} {below : List Frame} {meth : Method} {c : Code} {D : zzD} {bs : Nat} {Sc : zzS} {Mc Mm : zzM} (C : lwK p s m b c D) (hbs : bs = s.heap.size) {L : Nat} {xs : Nat → Int32} (hX0 : va_X b L xs s s.heap) (hbl : b < s.heap.size) (hL : L ≤ 2560) {n : Nat} (hn5 : n + 5 ≤ L) (hroom : Sc.2.1 ≤ 601024 ∧ Sc.2.2 ≤ 7293034) (hb0 : 0 < Sc.2.1) (hk0 : zzk Sc 0 = 10) {X : State → Prop} (hXs : zzStab bs X) (hX : X s) {Mc1 Mm1 : zzM} {r : Int64} {sa : Nat} (hl0 : l.stackTraces = false) (hA : ∀ q : Nat, bs + Sc.2.1 ≤ q → lwAc bs q) (hAb : ∀ q : Nat, lwAc bs q → bs ≤ q) (hroom1 : Sc.2.1 + 1 ≤ 601024 ∧ Sc.2.2 + 6 ≤ 7293034) (hZ : ∀ U : State, X U → zxW bs "BoardScript" 97 99 101 "java/lang/IndexOutOfBoundsException" "no such object or field" ["java/lang/RuntimeException", "java/lang/Exception"] sa U) (h1 : FT_Bs_at Sc Mc 0 (xs (n + 1)) (xs (n + 2)) = some ((), Mc1)) (h2 : F_Md_at lwSm Mm 28 (xs (n + 1)) (xs (n + 2)) = some (r, Mm1)) (ht : F_Md_thrown lwSm Mm1 28 = some (1, Mm1)) (kk : lwB p l e s m b below meth c (lwP D bs (zzjunk Sc) Mc1 lwSm Mm1) (zzjunk Sc).2.1 (zzjunk Sc).2.2 745 [(4, .int (nI n)), (3, .ref (bs + 62)), (2, .ref (bs + 28)), (1, .ref (bs + 0)), (0, .ref b)] []) : lwB p l e s m b below meth c (lwP D bs Sc Mc lwSm Mm) Sc.2.1 Sc.2.2 390 [(4, .int (nI n)), (3, .ref (bs + 62)), (2, .ref (bs + 28)), (1, .ref (bs + 0)), (0, .ref b)] [] := by
  refine li_aload_n C d_Lw_law_390 rfl 3 rfl ?_
  refine li_arg (k := 1) C hX0 hbl hL (by decide) (by omega) 4 0 rfl rfl d_Lw_law_391 d_Lw_law_392 d_Lw_law_394 d_Lw_law_395 d_Lw_law_396 ?_
  refine li_arg (k := 2) C hX0 hbl hL (by decide) (by omega) 4 0 rfl rfl d_Lw_law_397 d_Lw_law_398 d_Lw_law_400 d_Lw_law_401 d_Lw_law_402 ?_
  refine li_aload_n C d_Lw_law_403 rfl 1 rfl ?_
  refine li_h (n := 4) (r := 1) (As := [.ref (bs + 0), .int (xs (n + 1)), .int (xs (n + 2)), .ref (bs + 62)]) (st := []) (S2 := zzjunk Sc) (M2 := Mc1) (mc := 1) (ms := 6) C hbs hXs hX (cT_Lw_at (sa := sa) (out := ((), Mc1)) hl0 hA hAb hXs hZ h1 hb0 hk0) zw_683 zw_711 (by decide +kernel) ⟨Nat.le_of_ble_eq_true rfl, Nat.le_of_ble_eq_true rfl⟩ rfl (Nat.le_of_ble_eq_true rfl) hroom1 zw_728 zw_729 rfl d_Lw_law_404 ?_
  refine li_istore (lv' := [(5, .int (1 : Int32)), (4, .int (nI n)), (3, .ref (bs + 62)), (2, .ref (bs + 28)), (1, .ref (bs + 0)), (0, .ref b)]) C d_Lw_law_407 (by decide) rfl ?_
  refine li_aload_n C d_Lw_law_409 rfl 3 rfl ?_
  refine li_arg (k := 1) C hX0 hbl hL (by decide) (by omega) 5 1 rfl rfl d_Lw_law_410 d_Lw_law_411 d_Lw_law_413 d_Lw_law_414 d_Lw_law_415 ?_
  refine li_arg (k := 2) C hX0 hbl hL (by decide) (by omega) 5 1 rfl rfl d_Lw_law_416 d_Lw_law_417 d_Lw_law_419 d_Lw_law_420 d_Lw_law_421 ?_
  refine li_cv2 (n := 2) (res := (some (.long r))) (As := [.int (xs (n + 1)), .int (xs (n + 2))]) (st := []) (M2 := Mm1) C hbs (c_Md_at (out := (r, Mm1)) h2 lw_28 lw_k28) zw_733 zw_18 (by decide +kernel) ⟨Nat.le_of_ble_eq_true rfl, Nat.le_of_ble_eq_true rfl⟩ rfl (Nat.le_of_ble_eq_true rfl) hroom1 zw_730 zw_731 zw_732 zc_9.1 lw_28 lw_k28 rfl d_Lw_law_422 ?_
  refine li_lstore (lv' := [(6, .long r), (5, .int (1 : Int32)), (4, .int (nI n)), (3, .ref (bs + 62)), (2, .ref (bs + 28)), (1, .ref (bs + 0)), (0, .ref b)]) C d_Lw_law_425 (by decide) rfl ?_
  refine li_aload_n C d_Lw_law_427 rfl 4 rfl ?_
  refine li_cv2 (n := 0) (res := (some (.int (1 : Int32)))) (As := []) (st := []) (M2 := Mm1) C hbs (c_Md_thrown (out := ((1 : Int32), Mm1)) ht lw_28 lw_k28) zw_721 zw_18 (by decide +kernel) ⟨Nat.le_of_ble_eq_true rfl, Nat.le_of_ble_eq_true rfl⟩ rfl (Nat.le_of_ble_eq_true rfl) hroom1 zw_718 zw_719 zw_720 zc_9.1 lw_28 lw_k28 rfl d_Lw_law_428 ?_
  refine li_iload C d_Lw_law_431 1 rfl ?_
  refine li_icmpeqT (tgt := 438) C d_Lw_law_433 (by decide) rfl ?_
  refine li_iload C d_Lw_law_438 1 rfl ?_
  refine li_ifneT (tgt := 454) C d_Lw_law_440 (by decide) (by decide) ?_
  refine li_goto (tgt := 745) C d_Lw_law_454 (by decide) ?_
  refine li_sub [2, 3, 4, 5, 6] (lv' := [(4, .int (nI n)), (3, .ref (bs + 62)), (2, .ref (bs + 28)), (1, .ref (bs + 0)), (0, .ref b)]) rfl ?_
  exact kk
set_option maxHeartbeats 4000000 in
set_option maxRecDepth 100000 in
theorem lwc_query {p : Program} {l : Launch} {e : Env} {s : State} {m : MethodId} {b : Nat} {below : List Frame} {meth : Method} {c : Code} {D : zzD} {bs : Nat} {Sc : zzS} {Mc Mm : zzM} (C : lwK p s m b c D) (hbs : bs = s.heap.size) {L : Nat} {xs : Nat → Int32} (hX0 : va_X b L xs s s.heap) (hbl : b < s.heap.size) (hL : L ≤ 2560) {n : Nat} (hn5 : n + 5 ≤ L) (hroom : Sc.2.1 ≤ 601024 ∧ Sc.2.2 ≤ 7293034) (hb0 : 0 < Sc.2.1) (hk0 : zzk Sc 0 = 10) {Mc1 Mm1 : zzM} {r : Int32} (h1 : F_Bs_query Sc Mc 0 (xs (n + 1)) = some (r, Mc1)) (h2 : F_Md_query lwSm Mm 28 (xs (n + 1)) = some (r, Mm1)) (kk : lwB p l e s m b below meth c (lwP D bs Sc Mc1 lwSm Mm1) Sc.2.1 Sc.2.2 745 [(4, .int (nI n)), (3, .ref (bs + 62)), (2, .ref (bs + 28)), (1, .ref (bs + 0)), (0, .ref b)] []) : lwB p l e s m b below meth c (lwP D bs Sc Mc lwSm Mm) Sc.2.1 Sc.2.2 457 [(4, .int (nI n)), (3, .ref (bs + 62)), (2, .ref (bs + 28)), (1, .ref (bs + 0)), (0, .ref b)] [] := by
  refine li_aload_n C d_Lw_law_457 rfl 3 rfl ?_
  refine li_arg (k := 1) C hX0 hbl hL (by decide) (by omega) 4 0 rfl rfl d_Lw_law_458 d_Lw_law_459 d_Lw_law_461 d_Lw_law_462 d_Lw_law_463 ?_
  refine li_cv1 (n := 1) (res := (some (.int r))) (As := [.int (xs (n + 1))]) (st := []) (M2 := Mc1) C hbs (c_Bs_query (out := (r, Mc1)) h1 hb0 hk0) zw_737 zw_659 (by decide +kernel) ⟨Nat.le_of_ble_eq_true rfl, Nat.le_of_ble_eq_true rfl⟩ rfl (Nat.le_of_ble_eq_true rfl) hroom zw_734 zw_735 zw_736 zc_0.1 hb0 hk0 rfl d_Lw_law_464 ?_
  refine li_aload_n C d_Lw_law_467 rfl 2 rfl ?_
  refine li_arg (k := 1) C hX0 hbl hL (by decide) (by omega) 4 0 rfl rfl d_Lw_law_468 d_Lw_law_469 d_Lw_law_471 d_Lw_law_472 d_Lw_law_473 ?_
  refine li_cv2 (n := 1) (res := (some (.int r))) (As := [.int (xs (n + 1))]) (st := [.int r]) (M2 := Mm1) C hbs (c_Md_query (out := (r, Mm1)) h2 lw_28 lw_k28) zw_741 zw_18 (by decide +kernel) ⟨Nat.le_of_ble_eq_true rfl, Nat.le_of_ble_eq_true rfl⟩ rfl (Nat.le_of_ble_eq_true rfl) hroom zw_738 zw_739 zw_740 zc_9.1 lw_28 lw_k28 rfl d_Lw_law_474 ?_
  refine li_icmpeqT (tgt := 745) C d_Lw_law_477 (by decide) rfl ?_
  refine li_sub [0, 1, 2, 3, 4] (lv' := [(4, .int (nI n)), (3, .ref (bs + 62)), (2, .ref (bs + 28)), (1, .ref (bs + 0)), (0, .ref b)]) rfl ?_
  exact kk
set_option maxHeartbeats 4000000 in
set_option maxRecDepth 100000 in
theorem lwc_output {p : Program} {l : Launch} {e : Env} {s : State} {m : MethodId} {b : Nat} {below : List Frame} {meth : Method} {c : Code} {D : zzD} {bs : Nat} {Sc : zzS} {Mc Mm : zzM} (C : lwK p s m b c D) (hbs : bs = s.heap.size) {L : Nat} {xs : Nat → Int32} (hX0 : va_X b L xs s s.heap) (hbl : b < s.heap.size) (hL : L ≤ 2560) {n : Nat} (hn5 : n + 5 ≤ L) (hroom : Sc.2.1 ≤ 601024 ∧ Sc.2.2 ≤ 7293034) (hb0 : 0 < Sc.2.1) (hk0 : zzk Sc 0 = 10) {X : State → Prop} (hXs : zzStab bs X) (hX : X s) {Mc1 Mm1 : zzM} {r : Int32} (ho : 62 < Sc.2.1) (hko : zzk Sc 62 = 2) (hno : zzn Sc 62 = 1) (h1 : F_Lw_output Sc Mc (some 0) (xs (n + 1)) (some 62) = some (0, Mc1)) (h2 : F_Md_output lwSm Mm 28 (xs (n + 1)) = some (r, Mm1)) (ht : F_Md_thrown lwSm Mm1 28 = some (0, Mm1)) (hout : zzL Mc1 62 0 = r.toInt64) (kk : lwB p l e s m b below meth c (lwP D bs Sc Mc1 lwSm Mm1) Sc.2.1 Sc.2.2 745 [(4, .int (nI n)), (3, .ref (bs + 62)), (2, .ref (bs + 28)), (1, .ref (bs + 0)), (0, .ref b)] []) : lwB p l e s m b below meth c (lwP D bs Sc Mc lwSm Mm) Sc.2.1 Sc.2.2 482 [(4, .int (nI n)), (3, .ref (bs + 62)), (2, .ref (bs + 28)), (1, .ref (bs + 0)), (0, .ref b)] [] := by
  refine li_aload_n C d_Lw_law_482 rfl 3 rfl ?_
  refine li_arg (k := 1) C hX0 hbl hL (by decide) (by omega) 4 0 rfl rfl d_Lw_law_483 d_Lw_law_484 d_Lw_law_486 d_Lw_law_487 d_Lw_law_488 ?_
  refine li_aload_n C d_Lw_law_489 rfl 1 rfl ?_
  refine li_h (n := 3) (r := 0) (As := [zzrf bs (some 0), .int (xs (n + 1)), zzrf bs (some 62)]) (st := []) (S2 := Sc) (M2 := Mc1) (mc := 0) (ms := 0) C hbs hXs hX (lw_strong (c_Lw_output (out := (0, Mc1)) h1)) zw_684 zw_711 (by decide +kernel) ⟨Nat.le_of_ble_eq_true rfl, Nat.le_of_ble_eq_true rfl⟩ rfl (Nat.le_of_ble_eq_true rfl) hroom zw_742 zw_743 rfl d_Lw_law_490 ?_
  refine li_istore (lv' := [(5, .int (0 : Int32)), (4, .int (nI n)), (3, .ref (bs + 62)), (2, .ref (bs + 28)), (1, .ref (bs + 0)), (0, .ref b)]) C d_Lw_law_493 (by decide) rfl ?_
  refine li_aload_n C d_Lw_law_495 rfl 3 rfl ?_
  refine li_arg (k := 1) C hX0 hbl hL (by decide) (by omega) 5 1 rfl rfl d_Lw_law_496 d_Lw_law_497 d_Lw_law_499 d_Lw_law_500 d_Lw_law_501 ?_
  refine li_cv2 (n := 1) (res := (some (.int r))) (As := [.int (xs (n + 1))]) (st := []) (M2 := Mm1) C hbs (c_Md_output (out := (r, Mm1)) h2 lw_28 lw_k28) zw_747 zw_18 (by decide +kernel) ⟨Nat.le_of_ble_eq_true rfl, Nat.le_of_ble_eq_true rfl⟩ rfl (Nat.le_of_ble_eq_true rfl) hroom zw_744 zw_745 zw_746 zc_9.1 lw_28 lw_k28 rfl d_Lw_law_502 ?_
  refine li_istore (lv' := [(6, .int r), (5, .int (0 : Int32)), (4, .int (nI n)), (3, .ref (bs + 62)), (2, .ref (bs + 28)), (1, .ref (bs + 0)), (0, .ref b)]) C d_Lw_law_505 (by decide) rfl ?_
  refine li_aload_n C d_Lw_law_507 rfl 4 rfl ?_
  refine li_cv2 (n := 0) (res := (some (.int (0 : Int32)))) (As := []) (st := []) (M2 := Mm1) C hbs (c_Md_thrown (out := ((0 : Int32), Mm1)) ht lw_28 lw_k28) zw_721 zw_18 (by decide +kernel) ⟨Nat.le_of_ble_eq_true rfl, Nat.le_of_ble_eq_true rfl⟩ rfl (Nat.le_of_ble_eq_true rfl) hroom zw_718 zw_719 zw_720 zc_9.1 lw_28 lw_k28 rfl d_Lw_law_508 ?_
  refine li_iload C d_Lw_law_511 1 rfl ?_
  refine li_icmpeqT (tgt := 518) C d_Lw_law_513 (by decide) rfl ?_
  refine li_iload C d_Lw_law_518 1 rfl ?_
  refine li_ifneF (tgt := 535) C d_Lw_law_520 (by decide) rfl ?_
  refine li_aload_n C d_Lw_law_523 rfl 3 rfl ?_
  refine li_iconst (v := 0) C d_Lw_law_524 (by decide) ?_
  refine li_out C ho hko hno (v := r.toInt64) (hout) d_Lw_law_525 ?_
  refine li_iload C d_Lw_law_526 0 rfl ?_
  refine li_i2l C d_Lw_law_528 rfl ?_
  refine li_lcmp (v := 0) C d_Lw_law_529 (lw_cmp (rfl)) ?_
  refine li_ifeqT (tgt := 535) C d_Lw_law_530 (by decide) rfl ?_
  refine li_goto (tgt := 745) C d_Lw_law_535 (by decide) ?_
  refine li_sub [2, 3, 4, 5, 6] (lv' := [(4, .int (nI n)), (3, .ref (bs + 62)), (2, .ref (bs + 28)), (1, .ref (bs + 0)), (0, .ref b)]) rfl ?_
  exact kk
set_option maxHeartbeats 4000000 in
set_option maxRecDepth 100000 in
theorem lwcT_output {p : Program} {l : Launch} {e : Env} {s : State} {m : MethodId} {b : Nat} {below : List Frame} {meth : Method} {c : Code} {D : zzD} {bs : Nat} {Sc : zzS} {Mc Mm : zzM} (C : lwK p s m b c D) (hbs : bs = s.heap.size) {L : Nat} {xs : Nat → Int32} (hX0 : va_X b L xs s s.heap) (hbl : b < s.heap.size) (hL : L ≤ 2560) {n : Nat} (hn5 : n + 5 ≤ L) (hroom : Sc.2.1 ≤ 601024 ∧ Sc.2.2 ≤ 7293034) (hb0 : 0 < Sc.2.1) (hk0 : zzk Sc 0 = 10) {X : State → Prop} (hXs : zzStab bs X) (hX : X s) {Mc1 Mm1 : zzM} {r : Int32} {sa : Nat} (hl0 : l.stackTraces = false) (hA : ∀ q : Nat, bs + Sc.2.1 ≤ q → lwAc bs q) (hAb : ∀ q : Nat, lwAc bs q → bs ≤ q) (hroom1 : Sc.2.1 + 1 ≤ 601024 ∧ Sc.2.2 + 6 ≤ 7293034) (hZ : ∀ U : State, X U → zxW bs "BoardScript" 97 126 101 "java/lang/IndexOutOfBoundsException" "no such output" ["java/lang/RuntimeException", "java/lang/Exception"] sa U) (h1 : FT_Bs_output Sc Mc 0 (xs (n + 1)) = some ((), Mc1)) (h2 : F_Md_output lwSm Mm 28 (xs (n + 1)) = some (r, Mm1)) (ht : F_Md_thrown lwSm Mm1 28 = some (1, Mm1)) (kk : lwB p l e s m b below meth c (lwP D bs (zzjunk Sc) Mc1 lwSm Mm1) (zzjunk Sc).2.1 (zzjunk Sc).2.2 745 [(4, .int (nI n)), (3, .ref (bs + 62)), (2, .ref (bs + 28)), (1, .ref (bs + 0)), (0, .ref b)] []) : lwB p l e s m b below meth c (lwP D bs Sc Mc lwSm Mm) Sc.2.1 Sc.2.2 482 [(4, .int (nI n)), (3, .ref (bs + 62)), (2, .ref (bs + 28)), (1, .ref (bs + 0)), (0, .ref b)] [] := by
  refine li_aload_n C d_Lw_law_482 rfl 3 rfl ?_
  refine li_arg (k := 1) C hX0 hbl hL (by decide) (by omega) 4 0 rfl rfl d_Lw_law_483 d_Lw_law_484 d_Lw_law_486 d_Lw_law_487 d_Lw_law_488 ?_
  refine li_aload_n C d_Lw_law_489 rfl 1 rfl ?_
  refine li_h (n := 3) (r := 1) (As := [.ref (bs + 0), .int (xs (n + 1)), .ref (bs + 62)]) (st := []) (S2 := zzjunk Sc) (M2 := Mc1) (mc := 1) (ms := 6) C hbs hXs hX (cT_Lw_output (sa := sa) (out := ((), Mc1)) hl0 hA hAb hXs hZ h1 hb0 hk0) zw_684 zw_711 (by decide +kernel) ⟨Nat.le_of_ble_eq_true rfl, Nat.le_of_ble_eq_true rfl⟩ rfl (Nat.le_of_ble_eq_true rfl) hroom1 zw_742 zw_743 rfl d_Lw_law_490 ?_
  refine li_istore (lv' := [(5, .int (1 : Int32)), (4, .int (nI n)), (3, .ref (bs + 62)), (2, .ref (bs + 28)), (1, .ref (bs + 0)), (0, .ref b)]) C d_Lw_law_493 (by decide) rfl ?_
  refine li_aload_n C d_Lw_law_495 rfl 3 rfl ?_
  refine li_arg (k := 1) C hX0 hbl hL (by decide) (by omega) 5 1 rfl rfl d_Lw_law_496 d_Lw_law_497 d_Lw_law_499 d_Lw_law_500 d_Lw_law_501 ?_
  refine li_cv2 (n := 1) (res := (some (.int r))) (As := [.int (xs (n + 1))]) (st := []) (M2 := Mm1) C hbs (c_Md_output (out := (r, Mm1)) h2 lw_28 lw_k28) zw_747 zw_18 (by decide +kernel) ⟨Nat.le_of_ble_eq_true rfl, Nat.le_of_ble_eq_true rfl⟩ rfl (Nat.le_of_ble_eq_true rfl) hroom1 zw_744 zw_745 zw_746 zc_9.1 lw_28 lw_k28 rfl d_Lw_law_502 ?_
  refine li_istore (lv' := [(6, .int r), (5, .int (1 : Int32)), (4, .int (nI n)), (3, .ref (bs + 62)), (2, .ref (bs + 28)), (1, .ref (bs + 0)), (0, .ref b)]) C d_Lw_law_505 (by decide) rfl ?_
  refine li_aload_n C d_Lw_law_507 rfl 4 rfl ?_
  refine li_cv2 (n := 0) (res := (some (.int (1 : Int32)))) (As := []) (st := []) (M2 := Mm1) C hbs (c_Md_thrown (out := ((1 : Int32), Mm1)) ht lw_28 lw_k28) zw_721 zw_18 (by decide +kernel) ⟨Nat.le_of_ble_eq_true rfl, Nat.le_of_ble_eq_true rfl⟩ rfl (Nat.le_of_ble_eq_true rfl) hroom1 zw_718 zw_719 zw_720 zc_9.1 lw_28 lw_k28 rfl d_Lw_law_508 ?_
  refine li_iload C d_Lw_law_511 1 rfl ?_
  refine li_icmpeqT (tgt := 518) C d_Lw_law_513 (by decide) rfl ?_
  refine li_iload C d_Lw_law_518 1 rfl ?_
  refine li_ifneT (tgt := 535) C d_Lw_law_520 (by decide) (by decide) ?_
  refine li_goto (tgt := 745) C d_Lw_law_535 (by decide) ?_
  refine li_sub [2, 3, 4, 5, 6] (lv' := [(4, .int (nI n)), (3, .ref (bs + 62)), (2, .ref (bs + 28)), (1, .ref (bs + 0)), (0, .ref b)]) rfl ?_
  exact kk
set_option maxHeartbeats 4000000 in
set_option maxRecDepth 100000 in
theorem lwc_error {p : Program} {l : Launch} {e : Env} {s : State} {m : MethodId} {b : Nat} {below : List Frame} {meth : Method} {c : Code} {D : zzD} {bs : Nat} {Sc : zzS} {Mc Mm : zzM} (C : lwK p s m b c D) (hbs : bs = s.heap.size) {L : Nat} {xs : Nat → Int32} (hX0 : va_X b L xs s s.heap) (hbl : b < s.heap.size) (hL : L ≤ 2560) {n : Nat} (hn5 : n + 5 ≤ L) (hroom : Sc.2.1 ≤ 601024 ∧ Sc.2.2 ≤ 7293034) (hb0 : 0 < Sc.2.1) (hk0 : zzk Sc 0 = 10) {X : State → Prop} (hXs : zzStab bs X) (hX : X s) {Mc1 Mm1 : zzM} {r : Int32} (ho : 62 < Sc.2.1) (hko : zzk Sc 62 = 2) (hno : zzn Sc 62 = 1) (h1 : F_Lw_error Sc Mc (some 0) (xs (n + 1)) (some 62) = some (0, Mc1)) (h2 : F_Md_error lwSm Mm 28 (xs (n + 1)) = some (r, Mm1)) (ht : F_Md_thrown lwSm Mm1 28 = some (0, Mm1)) (hout : zzL Mc1 62 0 = r.toInt64) (kk : lwB p l e s m b below meth c (lwP D bs Sc Mc1 lwSm Mm1) Sc.2.1 Sc.2.2 745 [(4, .int (nI n)), (3, .ref (bs + 62)), (2, .ref (bs + 28)), (1, .ref (bs + 0)), (0, .ref b)] []) : lwB p l e s m b below meth c (lwP D bs Sc Mc lwSm Mm) Sc.2.1 Sc.2.2 538 [(4, .int (nI n)), (3, .ref (bs + 62)), (2, .ref (bs + 28)), (1, .ref (bs + 0)), (0, .ref b)] [] := by
  refine li_aload_n C d_Lw_law_538 rfl 3 rfl ?_
  refine li_arg (k := 1) C hX0 hbl hL (by decide) (by omega) 4 0 rfl rfl d_Lw_law_539 d_Lw_law_540 d_Lw_law_542 d_Lw_law_543 d_Lw_law_544 ?_
  refine li_aload_n C d_Lw_law_545 rfl 1 rfl ?_
  refine li_h (n := 3) (r := 0) (As := [zzrf bs (some 0), .int (xs (n + 1)), zzrf bs (some 62)]) (st := []) (S2 := Sc) (M2 := Mc1) (mc := 0) (ms := 0) C hbs hXs hX (lw_strong (c_Lw_error (out := (0, Mc1)) h1)) zw_685 zw_711 (by decide +kernel) ⟨Nat.le_of_ble_eq_true rfl, Nat.le_of_ble_eq_true rfl⟩ rfl (Nat.le_of_ble_eq_true rfl) hroom zw_748 zw_749 rfl d_Lw_law_546 ?_
  refine li_istore (lv' := [(5, .int (0 : Int32)), (4, .int (nI n)), (3, .ref (bs + 62)), (2, .ref (bs + 28)), (1, .ref (bs + 0)), (0, .ref b)]) C d_Lw_law_549 (by decide) rfl ?_
  refine li_aload_n C d_Lw_law_551 rfl 3 rfl ?_
  refine li_arg (k := 1) C hX0 hbl hL (by decide) (by omega) 5 1 rfl rfl d_Lw_law_552 d_Lw_law_553 d_Lw_law_555 d_Lw_law_556 d_Lw_law_557 ?_
  refine li_cv2 (n := 1) (res := (some (.int r))) (As := [.int (xs (n + 1))]) (st := []) (M2 := Mm1) C hbs (c_Md_error (out := (r, Mm1)) h2 lw_28 lw_k28) zw_753 zw_18 (by decide +kernel) ⟨Nat.le_of_ble_eq_true rfl, Nat.le_of_ble_eq_true rfl⟩ rfl (Nat.le_of_ble_eq_true rfl) hroom zw_750 zw_751 zw_752 zc_9.1 lw_28 lw_k28 rfl d_Lw_law_558 ?_
  refine li_istore (lv' := [(6, .int r), (5, .int (0 : Int32)), (4, .int (nI n)), (3, .ref (bs + 62)), (2, .ref (bs + 28)), (1, .ref (bs + 0)), (0, .ref b)]) C d_Lw_law_561 (by decide) rfl ?_
  refine li_aload_n C d_Lw_law_563 rfl 4 rfl ?_
  refine li_cv2 (n := 0) (res := (some (.int (0 : Int32)))) (As := []) (st := []) (M2 := Mm1) C hbs (c_Md_thrown (out := ((0 : Int32), Mm1)) ht lw_28 lw_k28) zw_721 zw_18 (by decide +kernel) ⟨Nat.le_of_ble_eq_true rfl, Nat.le_of_ble_eq_true rfl⟩ rfl (Nat.le_of_ble_eq_true rfl) hroom zw_718 zw_719 zw_720 zc_9.1 lw_28 lw_k28 rfl d_Lw_law_564 ?_
  refine li_iload C d_Lw_law_567 1 rfl ?_
  refine li_icmpeqT (tgt := 574) C d_Lw_law_569 (by decide) rfl ?_
  refine li_iload C d_Lw_law_574 1 rfl ?_
  refine li_ifneF (tgt := 591) C d_Lw_law_576 (by decide) rfl ?_
  refine li_aload_n C d_Lw_law_579 rfl 3 rfl ?_
  refine li_iconst (v := 0) C d_Lw_law_580 (by decide) ?_
  refine li_out C ho hko hno (v := r.toInt64) (hout) d_Lw_law_581 ?_
  refine li_iload C d_Lw_law_582 0 rfl ?_
  refine li_i2l C d_Lw_law_584 rfl ?_
  refine li_lcmp (v := 0) C d_Lw_law_585 (lw_cmp (rfl)) ?_
  refine li_ifeqT (tgt := 591) C d_Lw_law_586 (by decide) rfl ?_
  refine li_goto (tgt := 745) C d_Lw_law_591 (by decide) ?_
  refine li_sub [2, 3, 4, 5, 6] (lv' := [(4, .int (nI n)), (3, .ref (bs + 62)), (2, .ref (bs + 28)), (1, .ref (bs + 0)), (0, .ref b)]) rfl ?_
  exact kk
set_option maxHeartbeats 4000000 in
set_option maxRecDepth 100000 in
theorem lwcT_error {p : Program} {l : Launch} {e : Env} {s : State} {m : MethodId} {b : Nat} {below : List Frame} {meth : Method} {c : Code} {D : zzD} {bs : Nat} {Sc : zzS} {Mc Mm : zzM} (C : lwK p s m b c D) (hbs : bs = s.heap.size) {L : Nat} {xs : Nat → Int32} (hX0 : va_X b L xs s s.heap) (hbl : b < s.heap.size) (hL : L ≤ 2560) {n : Nat} (hn5 : n + 5 ≤ L) (hroom : Sc.2.1 ≤ 601024 ∧ Sc.2.2 ≤ 7293034) (hb0 : 0 < Sc.2.1) (hk0 : zzk Sc 0 = 10) {X : State → Prop} (hXs : zzStab bs X) (hX : X s) {Mc1 Mm1 : zzM} {r : Int32} {sa : Nat} (hl0 : l.stackTraces = false) (hA : ∀ q : Nat, bs + Sc.2.1 ≤ q → lwAc bs q) (hAb : ∀ q : Nat, lwAc bs q → bs ≤ q) (hroom1 : Sc.2.1 + 1 ≤ 601024 ∧ Sc.2.2 + 6 ≤ 7293034) (hZ : ∀ U : State, X U → zxW bs "BoardScript" 97 145 101 "java/lang/IndexOutOfBoundsException" "an error has 0, 1 and 2" ["java/lang/RuntimeException", "java/lang/Exception"] sa U) (h1 : FT_Bs_error Sc Mc 0 (xs (n + 1)) = some ((), Mc1)) (h2 : F_Md_error lwSm Mm 28 (xs (n + 1)) = some (r, Mm1)) (ht : F_Md_thrown lwSm Mm1 28 = some (1, Mm1)) (kk : lwB p l e s m b below meth c (lwP D bs (zzjunk Sc) Mc1 lwSm Mm1) (zzjunk Sc).2.1 (zzjunk Sc).2.2 745 [(4, .int (nI n)), (3, .ref (bs + 62)), (2, .ref (bs + 28)), (1, .ref (bs + 0)), (0, .ref b)] []) : lwB p l e s m b below meth c (lwP D bs Sc Mc lwSm Mm) Sc.2.1 Sc.2.2 538 [(4, .int (nI n)), (3, .ref (bs + 62)), (2, .ref (bs + 28)), (1, .ref (bs + 0)), (0, .ref b)] [] := by
  refine li_aload_n C d_Lw_law_538 rfl 3 rfl ?_
  refine li_arg (k := 1) C hX0 hbl hL (by decide) (by omega) 4 0 rfl rfl d_Lw_law_539 d_Lw_law_540 d_Lw_law_542 d_Lw_law_543 d_Lw_law_544 ?_
  refine li_aload_n C d_Lw_law_545 rfl 1 rfl ?_
  refine li_h (n := 3) (r := 1) (As := [.ref (bs + 0), .int (xs (n + 1)), .ref (bs + 62)]) (st := []) (S2 := zzjunk Sc) (M2 := Mc1) (mc := 1) (ms := 6) C hbs hXs hX (cT_Lw_error (sa := sa) (out := ((), Mc1)) hl0 hA hAb hXs hZ h1 hb0 hk0) zw_685 zw_711 (by decide +kernel) ⟨Nat.le_of_ble_eq_true rfl, Nat.le_of_ble_eq_true rfl⟩ rfl (Nat.le_of_ble_eq_true rfl) hroom1 zw_748 zw_749 rfl d_Lw_law_546 ?_
  refine li_istore (lv' := [(5, .int (1 : Int32)), (4, .int (nI n)), (3, .ref (bs + 62)), (2, .ref (bs + 28)), (1, .ref (bs + 0)), (0, .ref b)]) C d_Lw_law_549 (by decide) rfl ?_
  refine li_aload_n C d_Lw_law_551 rfl 3 rfl ?_
  refine li_arg (k := 1) C hX0 hbl hL (by decide) (by omega) 5 1 rfl rfl d_Lw_law_552 d_Lw_law_553 d_Lw_law_555 d_Lw_law_556 d_Lw_law_557 ?_
  refine li_cv2 (n := 1) (res := (some (.int r))) (As := [.int (xs (n + 1))]) (st := []) (M2 := Mm1) C hbs (c_Md_error (out := (r, Mm1)) h2 lw_28 lw_k28) zw_753 zw_18 (by decide +kernel) ⟨Nat.le_of_ble_eq_true rfl, Nat.le_of_ble_eq_true rfl⟩ rfl (Nat.le_of_ble_eq_true rfl) hroom1 zw_750 zw_751 zw_752 zc_9.1 lw_28 lw_k28 rfl d_Lw_law_558 ?_
  refine li_istore (lv' := [(6, .int r), (5, .int (1 : Int32)), (4, .int (nI n)), (3, .ref (bs + 62)), (2, .ref (bs + 28)), (1, .ref (bs + 0)), (0, .ref b)]) C d_Lw_law_561 (by decide) rfl ?_
  refine li_aload_n C d_Lw_law_563 rfl 4 rfl ?_
  refine li_cv2 (n := 0) (res := (some (.int (1 : Int32)))) (As := []) (st := []) (M2 := Mm1) C hbs (c_Md_thrown (out := ((1 : Int32), Mm1)) ht lw_28 lw_k28) zw_721 zw_18 (by decide +kernel) ⟨Nat.le_of_ble_eq_true rfl, Nat.le_of_ble_eq_true rfl⟩ rfl (Nat.le_of_ble_eq_true rfl) hroom1 zw_718 zw_719 zw_720 zc_9.1 lw_28 lw_k28 rfl d_Lw_law_564 ?_
  refine li_iload C d_Lw_law_567 1 rfl ?_
  refine li_icmpeqT (tgt := 574) C d_Lw_law_569 (by decide) rfl ?_
  refine li_iload C d_Lw_law_574 1 rfl ?_
  refine li_ifneT (tgt := 591) C d_Lw_law_576 (by decide) (by decide) ?_
  refine li_goto (tgt := 745) C d_Lw_law_591 (by decide) ?_
  refine li_sub [2, 3, 4, 5, 6] (lv' := [(4, .int (nI n)), (3, .ref (bs + 62)), (2, .ref (bs + 28)), (1, .ref (bs + 0)), (0, .ref b)]) rfl ?_
  exact kk
set_option maxHeartbeats 4000000 in
set_option maxRecDepth 100000 in
theorem lwc_closed {p : Program} {l : Launch} {e : Env} {s : State} {m : MethodId} {b : Nat} {below : List Frame} {meth : Method} {c : Code} {D : zzD} {bs : Nat} {Sc : zzS} {Mc Mm : zzM} (C : lwK p s m b c D) (hbs : bs = s.heap.size) {L : Nat} {xs : Nat → Int32} (hX0 : va_X b L xs s s.heap) (hbl : b < s.heap.size) (hL : L ≤ 2560) {n : Nat} (hn5 : n + 5 ≤ L) (hroom : Sc.2.1 ≤ 601024 ∧ Sc.2.2 ≤ 7293034) (hb0 : 0 < Sc.2.1) (hk0 : zzk Sc 0 = 10) {Mc1 Mm1 : zzM} {r : Int32} (h1 : F_Bs_closed Sc Mc 0 (xs (n + 1)) = some (r, Mc1)) (h2 : F_Md_closed lwSm Mm 28 (xs (n + 1)) = some (r, Mm1)) (kk : lwB p l e s m b below meth c (lwP D bs Sc Mc1 lwSm Mm1) Sc.2.1 Sc.2.2 745 [(4, .int (nI n)), (3, .ref (bs + 62)), (2, .ref (bs + 28)), (1, .ref (bs + 0)), (0, .ref b)] []) : lwB p l e s m b below meth c (lwP D bs Sc Mc lwSm Mm) Sc.2.1 Sc.2.2 594 [(4, .int (nI n)), (3, .ref (bs + 62)), (2, .ref (bs + 28)), (1, .ref (bs + 0)), (0, .ref b)] [] := by
  refine li_aload_n C d_Lw_law_594 rfl 3 rfl ?_
  refine li_arg (k := 1) C hX0 hbl hL (by decide) (by omega) 4 0 rfl rfl d_Lw_law_595 d_Lw_law_596 d_Lw_law_598 d_Lw_law_599 d_Lw_law_600 ?_
  refine li_cv1 (n := 1) (res := (some (.int r))) (As := [.int (xs (n + 1))]) (st := []) (M2 := Mc1) C hbs (c_Bs_closed (out := (r, Mc1)) h1 hb0 hk0) zw_757 zw_659 (by decide +kernel) ⟨Nat.le_of_ble_eq_true rfl, Nat.le_of_ble_eq_true rfl⟩ rfl (Nat.le_of_ble_eq_true rfl) hroom zw_754 zw_755 zw_756 zc_0.1 hb0 hk0 rfl d_Lw_law_601 ?_
  refine li_aload_n C d_Lw_law_604 rfl 2 rfl ?_
  refine li_arg (k := 1) C hX0 hbl hL (by decide) (by omega) 4 0 rfl rfl d_Lw_law_605 d_Lw_law_606 d_Lw_law_608 d_Lw_law_609 d_Lw_law_610 ?_
  refine li_cv2 (n := 1) (res := (some (.int r))) (As := [.int (xs (n + 1))]) (st := [.int r]) (M2 := Mm1) C hbs (c_Md_closed (out := (r, Mm1)) h2 lw_28 lw_k28) zw_761 zw_18 (by decide +kernel) ⟨Nat.le_of_ble_eq_true rfl, Nat.le_of_ble_eq_true rfl⟩ rfl (Nat.le_of_ble_eq_true rfl) hroom zw_758 zw_759 zw_760 zc_9.1 lw_28 lw_k28 rfl d_Lw_law_611 ?_
  refine li_icmpeqT (tgt := 745) C d_Lw_law_614 (by decide) rfl ?_
  refine li_sub [0, 1, 2, 3, 4] (lv' := [(4, .int (nI n)), (3, .ref (bs + 62)), (2, .ref (bs + 28)), (1, .ref (bs + 0)), (0, .ref b)]) rfl ?_
  exact kk
set_option maxHeartbeats 4000000 in
set_option maxRecDepth 100000 in
theorem lwc_restored {p : Program} {l : Launch} {e : Env} {s : State} {m : MethodId} {b : Nat} {below : List Frame} {meth : Method} {c : Code} {D : zzD} {bs : Nat} {Sc : zzS} {Mc Mm : zzM} (C : lwK p s m b c D) (hbs : bs = s.heap.size) {L : Nat} {xs : Nat → Int32} (hX0 : va_X b L xs s s.heap) (hbl : b < s.heap.size) (hL : L ≤ 2560) {n : Nat} (hn5 : n + 5 ≤ L) (hroom : Sc.2.1 ≤ 601024 ∧ Sc.2.2 ≤ 7293034) (hb0 : 0 < Sc.2.1) (hk0 : zzk Sc 0 = 10) {Mc1 Mm1 : zzM} {r : Int32} (h1 : F_Bs_restored Sc Mc 0  = some (r, Mc1)) (h2 : F_Md_restored lwSm Mm 28  = some (r, Mm1)) (kk : lwB p l e s m b below meth c (lwP D bs Sc Mc1 lwSm Mm1) Sc.2.1 Sc.2.2 745 [(4, .int (nI n)), (3, .ref (bs + 62)), (2, .ref (bs + 28)), (1, .ref (bs + 0)), (0, .ref b)] []) : lwB p l e s m b below meth c (lwP D bs Sc Mc lwSm Mm) Sc.2.1 Sc.2.2 619 [(4, .int (nI n)), (3, .ref (bs + 62)), (2, .ref (bs + 28)), (1, .ref (bs + 0)), (0, .ref b)] [] := by
  refine li_aload_n C d_Lw_law_619 rfl 3 rfl ?_
  refine li_cv1 (n := 0) (res := (some (.int r))) (As := []) (st := []) (M2 := Mc1) C hbs (c_Bs_restored (out := (r, Mc1)) h1 hb0 hk0) zw_765 zw_659 (by decide +kernel) ⟨Nat.le_of_ble_eq_true rfl, Nat.le_of_ble_eq_true rfl⟩ rfl (Nat.le_of_ble_eq_true rfl) hroom zw_762 zw_763 zw_764 zc_0.1 hb0 hk0 rfl d_Lw_law_620 ?_
  refine li_aload_n C d_Lw_law_623 rfl 2 rfl ?_
  refine li_cv2 (n := 0) (res := (some (.int r))) (As := []) (st := [.int r]) (M2 := Mm1) C hbs (c_Md_restored (out := (r, Mm1)) h2 lw_28 lw_k28) zw_769 zw_18 (by decide +kernel) ⟨Nat.le_of_ble_eq_true rfl, Nat.le_of_ble_eq_true rfl⟩ rfl (Nat.le_of_ble_eq_true rfl) hroom zw_766 zw_767 zw_768 zc_9.1 lw_28 lw_k28 rfl d_Lw_law_624 ?_
  refine li_icmpeqT (tgt := 745) C d_Lw_law_627 (by decide) rfl ?_
  refine li_sub [0, 1, 2, 3, 4] (lv' := [(4, .int (nI n)), (3, .ref (bs + 62)), (2, .ref (bs + 28)), (1, .ref (bs + 0)), (0, .ref b)]) rfl ?_
  exact kk
set_option maxHeartbeats 4000000 in
set_option maxRecDepth 100000 in
theorem lwc_added {p : Program} {l : Launch} {e : Env} {s : State} {m : MethodId} {b : Nat} {below : List Frame} {meth : Method} {c : Code} {D : zzD} {bs : Nat} {Sc : zzS} {Mc Mm : zzM} (C : lwK p s m b c D) (hbs : bs = s.heap.size) {L : Nat} {xs : Nat → Int32} (hX0 : va_X b L xs s s.heap) (hbl : b < s.heap.size) (hL : L ≤ 2560) {n : Nat} (hn5 : n + 5 ≤ L) (hroom : Sc.2.1 ≤ 601024 ∧ Sc.2.2 ≤ 7293034) (hb0 : 0 < Sc.2.1) (hk0 : zzk Sc 0 = 10) {Mc1 Mm1 : zzM} {r : Int32} (h1 : F_Bs_added Sc Mc 0 (xs (n + 1)) = some (r, Mc1)) (h2 : F_Md_added lwSm Mm 28 (xs (n + 1)) = some (r, Mm1)) (kk : lwB p l e s m b below meth c (lwP D bs Sc Mc1 lwSm Mm1) Sc.2.1 Sc.2.2 745 [(4, .int (nI n)), (3, .ref (bs + 62)), (2, .ref (bs + 28)), (1, .ref (bs + 0)), (0, .ref b)] []) : lwB p l e s m b below meth c (lwP D bs Sc Mc lwSm Mm) Sc.2.1 Sc.2.2 632 [(4, .int (nI n)), (3, .ref (bs + 62)), (2, .ref (bs + 28)), (1, .ref (bs + 0)), (0, .ref b)] [] := by
  refine li_aload_n C d_Lw_law_632 rfl 3 rfl ?_
  refine li_arg (k := 1) C hX0 hbl hL (by decide) (by omega) 4 0 rfl rfl d_Lw_law_633 d_Lw_law_634 d_Lw_law_636 d_Lw_law_637 d_Lw_law_638 ?_
  refine li_cv1 (n := 1) (res := (some (.int r))) (As := [.int (xs (n + 1))]) (st := []) (M2 := Mc1) C hbs (c_Bs_added (out := (r, Mc1)) h1 hb0 hk0) zw_773 zw_659 (by decide +kernel) ⟨Nat.le_of_ble_eq_true rfl, Nat.le_of_ble_eq_true rfl⟩ rfl (Nat.le_of_ble_eq_true rfl) hroom zw_770 zw_771 zw_772 zc_0.1 hb0 hk0 rfl d_Lw_law_639 ?_
  refine li_aload_n C d_Lw_law_642 rfl 2 rfl ?_
  refine li_arg (k := 1) C hX0 hbl hL (by decide) (by omega) 4 0 rfl rfl d_Lw_law_643 d_Lw_law_644 d_Lw_law_646 d_Lw_law_647 d_Lw_law_648 ?_
  refine li_cv2 (n := 1) (res := (some (.int r))) (As := [.int (xs (n + 1))]) (st := [.int r]) (M2 := Mm1) C hbs (c_Md_added (out := (r, Mm1)) h2 lw_28 lw_k28) zw_777 zw_18 (by decide +kernel) ⟨Nat.le_of_ble_eq_true rfl, Nat.le_of_ble_eq_true rfl⟩ rfl (Nat.le_of_ble_eq_true rfl) hroom zw_774 zw_775 zw_776 zc_9.1 lw_28 lw_k28 rfl d_Lw_law_649 ?_
  refine li_icmpeqT (tgt := 745) C d_Lw_law_652 (by decide) rfl ?_
  refine li_sub [0, 1, 2, 3, 4] (lv' := [(4, .int (nI n)), (3, .ref (bs + 62)), (2, .ref (bs + 28)), (1, .ref (bs + 0)), (0, .ref b)]) rfl ?_
  exact kk
set_option maxHeartbeats 4000000 in
set_option maxRecDepth 100000 in
theorem lwc_steps {p : Program} {l : Launch} {e : Env} {s : State} {m : MethodId} {b : Nat} {below : List Frame} {meth : Method} {c : Code} {D : zzD} {bs : Nat} {Sc : zzS} {Mc Mm : zzM} (C : lwK p s m b c D) (hbs : bs = s.heap.size) {L : Nat} {xs : Nat → Int32} (hX0 : va_X b L xs s s.heap) (hbl : b < s.heap.size) (hL : L ≤ 2560) {n : Nat} (hn5 : n + 5 ≤ L) (hroom : Sc.2.1 ≤ 601024 ∧ Sc.2.2 ≤ 7293034) (hb0 : 0 < Sc.2.1) (hk0 : zzk Sc 0 = 10) {Mc1 Mm1 : zzM} {r : Int64} (h1 : F_Bs_steps Sc Mc 0  = some (r, Mc1)) (h2 : F_Md_steps lwSm Mm 28  = some (r, Mm1)) (kk : lwB p l e s m b below meth c (lwP D bs Sc Mc1 lwSm Mm1) Sc.2.1 Sc.2.2 745 [(4, .int (nI n)), (3, .ref (bs + 62)), (2, .ref (bs + 28)), (1, .ref (bs + 0)), (0, .ref b)] []) : lwB p l e s m b below meth c (lwP D bs Sc Mc lwSm Mm) Sc.2.1 Sc.2.2 657 [(4, .int (nI n)), (3, .ref (bs + 62)), (2, .ref (bs + 28)), (1, .ref (bs + 0)), (0, .ref b)] [] := by
  refine li_aload_n C d_Lw_law_657 rfl 3 rfl ?_
  refine li_cv1 (n := 0) (res := (some (.long r))) (As := []) (st := []) (M2 := Mc1) C hbs (c_Bs_steps (out := (r, Mc1)) h1 hb0 hk0) zw_781 zw_659 (by decide +kernel) ⟨Nat.le_of_ble_eq_true rfl, Nat.le_of_ble_eq_true rfl⟩ rfl (Nat.le_of_ble_eq_true rfl) hroom zw_778 zw_779 zw_780 zc_0.1 hb0 hk0 rfl d_Lw_law_658 ?_
  refine li_aload_n C d_Lw_law_661 rfl 2 rfl ?_
  refine li_cv2 (n := 0) (res := (some (.long r))) (As := []) (st := [.long r]) (M2 := Mm1) C hbs (c_Md_steps (out := (r, Mm1)) h2 lw_28 lw_k28) zw_785 zw_18 (by decide +kernel) ⟨Nat.le_of_ble_eq_true rfl, Nat.le_of_ble_eq_true rfl⟩ rfl (Nat.le_of_ble_eq_true rfl) hroom zw_782 zw_783 zw_784 zc_9.1 lw_28 lw_k28 rfl d_Lw_law_662 ?_
  refine li_lcmp (v := 0) C d_Lw_law_665 (lw_cmp (rfl)) ?_
  refine li_ifeqT (tgt := 745) C d_Lw_law_666 (by decide) rfl ?_
  refine li_sub [0, 1, 2, 3, 4] (lv' := [(4, .int (nI n)), (3, .ref (bs + 62)), (2, .ref (bs + 28)), (1, .ref (bs + 0)), (0, .ref b)]) rfl ?_
  exact kk
set_option maxHeartbeats 4000000 in
set_option maxRecDepth 100000 in
theorem lwc_failAt {p : Program} {l : Launch} {e : Env} {s : State} {m : MethodId} {b : Nat} {below : List Frame} {meth : Method} {c : Code} {D : zzD} {bs : Nat} {Sc : zzS} {Mc Mm : zzM} (C : lwK p s m b c D) (hbs : bs = s.heap.size) {L : Nat} {xs : Nat → Int32} (hX0 : va_X b L xs s s.heap) (hbl : b < s.heap.size) (hL : L ≤ 2560) {n : Nat} (hn5 : n + 5 ≤ L) (hroom : Sc.2.1 ≤ 601024 ∧ Sc.2.2 ≤ 7293034) (hb0 : 0 < Sc.2.1) (hk0 : zzk Sc 0 = 10) {Mc1 Mm1 : zzM} {r : Int32} (h1 : F_Bs_failAt Sc Mc 0 (xs (n + 1)) = some (r, Mc1)) (h2 : F_Md_failAt lwSm Mm 28 (xs (n + 1)) = some (r, Mm1)) (kk : lwB p l e s m b below meth c (lwP D bs Sc Mc1 lwSm Mm1) Sc.2.1 Sc.2.2 745 [(4, .int (nI n)), (3, .ref (bs + 62)), (2, .ref (bs + 28)), (1, .ref (bs + 0)), (0, .ref b)] []) : lwB p l e s m b below meth c (lwP D bs Sc Mc lwSm Mm) Sc.2.1 Sc.2.2 671 [(4, .int (nI n)), (3, .ref (bs + 62)), (2, .ref (bs + 28)), (1, .ref (bs + 0)), (0, .ref b)] [] := by
  refine li_aload_n C d_Lw_law_671 rfl 3 rfl ?_
  refine li_arg (k := 1) C hX0 hbl hL (by decide) (by omega) 4 0 rfl rfl d_Lw_law_672 d_Lw_law_673 d_Lw_law_675 d_Lw_law_676 d_Lw_law_677 ?_
  refine li_cv1 (n := 1) (res := (some (.int r))) (As := [.int (xs (n + 1))]) (st := []) (M2 := Mc1) C hbs (c_Bs_failAt (out := (r, Mc1)) h1 hb0 hk0) zw_789 zw_659 (by decide +kernel) ⟨Nat.le_of_ble_eq_true rfl, Nat.le_of_ble_eq_true rfl⟩ rfl (Nat.le_of_ble_eq_true rfl) hroom zw_786 zw_787 zw_788 zc_0.1 hb0 hk0 rfl d_Lw_law_678 ?_
  refine li_aload_n C d_Lw_law_681 rfl 2 rfl ?_
  refine li_arg (k := 1) C hX0 hbl hL (by decide) (by omega) 4 0 rfl rfl d_Lw_law_682 d_Lw_law_683 d_Lw_law_685 d_Lw_law_686 d_Lw_law_687 ?_
  refine li_cv2 (n := 1) (res := (some (.int r))) (As := [.int (xs (n + 1))]) (st := [.int r]) (M2 := Mm1) C hbs (c_Md_failAt (out := (r, Mm1)) h2 lw_28 lw_k28) zw_793 zw_18 (by decide +kernel) ⟨Nat.le_of_ble_eq_true rfl, Nat.le_of_ble_eq_true rfl⟩ rfl (Nat.le_of_ble_eq_true rfl) hroom zw_790 zw_791 zw_792 zc_9.1 lw_28 lw_k28 rfl d_Lw_law_688 ?_
  refine li_icmpeqT (tgt := 745) C d_Lw_law_691 (by decide) rfl ?_
  refine li_sub [0, 1, 2, 3, 4] (lv' := [(4, .int (nI n)), (3, .ref (bs + 62)), (2, .ref (bs + 28)), (1, .ref (bs + 0)), (0, .ref b)]) rfl ?_
  exact kk
set_option maxHeartbeats 4000000 in
set_option maxRecDepth 100000 in
theorem lwc_list {p : Program} {l : Launch} {e : Env} {s : State} {m : MethodId} {b : Nat} {below : List Frame} {meth : Method} {c : Code} {D : zzD} {bs : Nat} {Sc : zzS} {Mc Mm : zzM} (C : lwK p s m b c D) (hbs : bs = s.heap.size) {L : Nat} {xs : Nat → Int32} (hX0 : va_X b L xs s s.heap) (hbl : b < s.heap.size) (hL : L ≤ 2560) {n : Nat} (hn5 : n + 5 ≤ L) (hroom : Sc.2.1 ≤ 601024 ∧ Sc.2.2 ≤ 7293034) (hb0 : 0 < Sc.2.1) (hk0 : zzk Sc 0 = 10) {Mc1 Mm1 : zzM} {r : Int32} (h1 : F_Bs_list Sc Mc 0 (xs (n + 1)) = some (r, Mc1)) (h2 : F_Md_list lwSm Mm 28 (xs (n + 1)) = some (r, Mm1)) (kk : lwB p l e s m b below meth c (lwP D bs Sc Mc1 lwSm Mm1) Sc.2.1 Sc.2.2 745 [(4, .int (nI n)), (3, .ref (bs + 62)), (2, .ref (bs + 28)), (1, .ref (bs + 0)), (0, .ref b)] []) : lwB p l e s m b below meth c (lwP D bs Sc Mc lwSm Mm) Sc.2.1 Sc.2.2 696 [(4, .int (nI n)), (3, .ref (bs + 62)), (2, .ref (bs + 28)), (1, .ref (bs + 0)), (0, .ref b)] [] := by
  refine li_aload_n C d_Lw_law_696 rfl 3 rfl ?_
  refine li_arg (k := 1) C hX0 hbl hL (by decide) (by omega) 4 0 rfl rfl d_Lw_law_697 d_Lw_law_698 d_Lw_law_700 d_Lw_law_701 d_Lw_law_702 ?_
  refine li_cv1 (n := 1) (res := (some (.int r))) (As := [.int (xs (n + 1))]) (st := []) (M2 := Mc1) C hbs (c_Bs_list (out := (r, Mc1)) h1 hb0 hk0) zw_797 zw_659 (by decide +kernel) ⟨Nat.le_of_ble_eq_true rfl, Nat.le_of_ble_eq_true rfl⟩ rfl (Nat.le_of_ble_eq_true rfl) hroom zw_794 zw_795 zw_796 zc_0.1 hb0 hk0 rfl d_Lw_law_703 ?_
  refine li_aload_n C d_Lw_law_706 rfl 2 rfl ?_
  refine li_arg (k := 1) C hX0 hbl hL (by decide) (by omega) 4 0 rfl rfl d_Lw_law_707 d_Lw_law_708 d_Lw_law_710 d_Lw_law_711 d_Lw_law_712 ?_
  refine li_cv2 (n := 1) (res := (some (.int r))) (As := [.int (xs (n + 1))]) (st := [.int r]) (M2 := Mm1) C hbs (c_Md_list (out := (r, Mm1)) h2 lw_28 lw_k28) zw_801 zw_18 (by decide +kernel) ⟨Nat.le_of_ble_eq_true rfl, Nat.le_of_ble_eq_true rfl⟩ rfl (Nat.le_of_ble_eq_true rfl) hroom zw_798 zw_799 zw_800 zc_9.1 lw_28 lw_k28 rfl d_Lw_law_713 ?_
  refine li_icmpeqT (tgt := 745) C d_Lw_law_716 (by decide) rfl ?_
  refine li_sub [0, 1, 2, 3, 4] (lv' := [(4, .int (nI n)), (3, .ref (bs + 62)), (2, .ref (bs + 28)), (1, .ref (bs + 0)), (0, .ref b)]) rfl ?_
  exact kk
set_option maxHeartbeats 4000000 in
set_option maxRecDepth 100000 in
theorem lwc_line {p : Program} {l : Launch} {e : Env} {s : State} {m : MethodId} {b : Nat} {below : List Frame} {meth : Method} {c : Code} {D : zzD} {bs : Nat} {Sc : zzS} {Mc Mm : zzM} (C : lwK p s m b c D) (hbs : bs = s.heap.size) {L : Nat} {xs : Nat → Int32} (hX0 : va_X b L xs s s.heap) (hbl : b < s.heap.size) (hL : L ≤ 2560) {n : Nat} (hn5 : n + 5 ≤ L) (hroom : Sc.2.1 ≤ 601024 ∧ Sc.2.2 ≤ 7293034) (hb0 : 0 < Sc.2.1) (hk0 : zzk Sc 0 = 10) {Mc1 Mm1 : zzM} {r : Int32} (h1 : F_Bs_line Sc Mc 0  = some (r, Mc1)) (h2 : F_Md_line lwSm Mm 28  = some (r, Mm1)) (kk : lwB p l e s m b below meth c (lwP D bs Sc Mc1 lwSm Mm1) Sc.2.1 Sc.2.2 745 [(4, .int (nI n)), (3, .ref (bs + 62)), (2, .ref (bs + 28)), (1, .ref (bs + 0)), (0, .ref b)] []) : lwB p l e s m b below meth c (lwP D bs Sc Mc lwSm Mm) Sc.2.1 Sc.2.2 721 [(4, .int (nI n)), (3, .ref (bs + 62)), (2, .ref (bs + 28)), (1, .ref (bs + 0)), (0, .ref b)] [] := by
  refine li_aload_n C d_Lw_law_721 rfl 3 rfl ?_
  refine li_cv1 (n := 0) (res := (some (.int r))) (As := []) (st := []) (M2 := Mc1) C hbs (c_Bs_line (out := (r, Mc1)) h1 hb0 hk0) zw_805 zw_659 (by decide +kernel) ⟨Nat.le_of_ble_eq_true rfl, Nat.le_of_ble_eq_true rfl⟩ rfl (Nat.le_of_ble_eq_true rfl) hroom zw_802 zw_803 zw_804 zc_0.1 hb0 hk0 rfl d_Lw_law_722 ?_
  refine li_aload_n C d_Lw_law_725 rfl 2 rfl ?_
  refine li_cv2 (n := 0) (res := (some (.int r))) (As := []) (st := [.int r]) (M2 := Mm1) C hbs (c_Md_line (out := (r, Mm1)) h2 lw_28 lw_k28) zw_809 zw_18 (by decide +kernel) ⟨Nat.le_of_ble_eq_true rfl, Nat.le_of_ble_eq_true rfl⟩ rfl (Nat.le_of_ble_eq_true rfl) hroom zw_806 zw_807 zw_808 zc_9.1 lw_28 lw_k28 rfl d_Lw_law_726 ?_
  refine li_icmpeqT (tgt := 745) C d_Lw_law_729 (by decide) rfl ?_
  refine li_sub [0, 1, 2, 3, 4] (lv' := [(4, .int (nI n)), (3, .ref (bs + 62)), (2, .ref (bs + 28)), (1, .ref (bs + 0)), (0, .ref b)]) rfl ?_
  exact kk
set_option maxHeartbeats 4000000 in
set_option maxRecDepth 100000 in
theorem lwc_clear {p : Program} {l : Launch} {e : Env} {s : State} {m : MethodId} {b : Nat} {below : List Frame} {meth : Method} {c : Code} {D : zzD} {bs : Nat} {Sc : zzS} {Mc Mm : zzM} (C : lwK p s m b c D) (hbs : bs = s.heap.size) {L : Nat} {xs : Nat → Int32} (hX0 : va_X b L xs s s.heap) (hbl : b < s.heap.size) (hL : L ≤ 2560) {n : Nat} (hn5 : n + 5 ≤ L) (hroom : Sc.2.1 ≤ 601024 ∧ Sc.2.2 ≤ 7293034) (hb0 : 0 < Sc.2.1) (hk0 : zzk Sc 0 = 10) {Mc1 Mm1 : zzM}  (h1 : F_Bs_clear Sc Mc 0  = some ((), Mc1)) (h2 : F_Md_clear lwSm Mm 28  = some ((), Mm1)) (kk : lwB p l e s m b below meth c (lwP D bs Sc Mc1 lwSm Mm1) Sc.2.1 Sc.2.2 745 [(4, .int (nI n)), (3, .ref (bs + 62)), (2, .ref (bs + 28)), (1, .ref (bs + 0)), (0, .ref b)] []) : lwB p l e s m b below meth c (lwP D bs Sc Mc lwSm Mm) Sc.2.1 Sc.2.2 734 [(4, .int (nI n)), (3, .ref (bs + 62)), (2, .ref (bs + 28)), (1, .ref (bs + 0)), (0, .ref b)] [] := by
  refine li_aload_n C d_Lw_law_734 rfl 3 rfl ?_
  refine li_cv1 (n := 0) (res := none) (As := []) (st := []) (M2 := Mc1) C hbs (c_Bs_clear (out := ((), Mc1)) h1 hb0 hk0) zw_813 zw_659 (by decide +kernel) ⟨Nat.le_of_ble_eq_true rfl, Nat.le_of_ble_eq_true rfl⟩ rfl (Nat.le_of_ble_eq_true rfl) hroom zw_810 zw_811 zw_812 zc_0.1 hb0 hk0 rfl d_Lw_law_735 ?_
  refine li_aload_n C d_Lw_law_738 rfl 2 rfl ?_
  refine li_cv2 (n := 0) (res := none) (As := []) (st := []) (M2 := Mm1) C hbs (c_Md_clear (out := ((), Mm1)) h2 lw_28 lw_k28) zw_817 zw_18 (by decide +kernel) ⟨Nat.le_of_ble_eq_true rfl, Nat.le_of_ble_eq_true rfl⟩ rfl (Nat.le_of_ble_eq_true rfl) hroom zw_814 zw_815 zw_816 zc_9.1 lw_28 lw_k28 rfl d_Lw_law_739 ?_
  refine li_goto (tgt := 745) C d_Lw_law_742 (by decide) ?_
  refine li_sub [0, 1, 2, 3, 4] (lv' := [(4, .int (nI n)), (3, .ref (bs + 62)), (2, .ref (bs + 28)), (1, .ref (bs + 0)), (0, .ref b)]) rfl ?_
  exact kk
