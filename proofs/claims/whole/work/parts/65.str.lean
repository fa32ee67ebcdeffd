def zzsk : List Nat := [106, 108, 110, 112, 114, 116, 118, 120, 122, 124, 126]
def zzsx : List String := ["=E;", ";", "A:D=E;", "A=E;", "E;", "EBO", "EB", "S", "BC", "FB", ""]
def zzsn : List Nat := [3, 1, 6, 4, 2, 3, 2, 1, 2, 2, 0]
def zzsl (q : Nat) : Nat := zzsn.getD q 0
def zzsy : List (List Int32) := [[61, 69, 59], [59], [65, 58, 68, 61, 69, 59], [65, 61, 69, 59], [69, 59], [69, 66, 79], [69, 66], [83], [66, 67], [70, 66], []]
def zzsb (q j : Nat) : Int32 := (zzsy.getD q []).getD j 0
def zzsE (q : Nat) : Int32 := if zzsl q = 0 then 1 else 0
def zzsq (q : Nat) : Bool := decide (q < 11)
def zzscok (q : Nat) (i : Int32) : Bool := decide (q < 11 ∧ ¬ i < 0 ∧ i.toNatClampNeg < zzsl q)
def zzStr (bs : Nat) (adK adV : Nat → Nat) (U : State) : Prop := (∀ i : Nat, i < 11 → vk_R "BoardScript$Reader" (zzsk.getD i 0) (zzsx.getD i "") (adK i) U) ∧ vk_S 11 zzsn zzsy adK adV (fun q => bs ≤ q) U U.heap ∧ va_Z "java/lang/String" "COMPACT_STRINGS" "Z" (.int 1) (fun q => bs ≤ q) U U.heap ∧ va_Zq "jdk/internal/util/Preconditions" "SIOOBE_FORMATTER" "Ljava/util/function/BiFunction;" (fun q => bs ≤ q) U U.heap
def zzXF (bs : Nat) (adK adV : Nat → Nat) (U : State) : Prop := zzNest U ∧ zzStr bs adK adV U
theorem zz_metS {l : Launch} {y : MethodName} {bytes : ByteArray} {maxL fr lo : Nat} {ret : Option FieldType} {D : zzD} {bs : Nat} {A : Nat → Prop} {X : State → Prop} {S : zzS} {M : zzM} {res : Option Value} (av : List Value) (hy : plainName y.cls = true) (hav : (lg_sl av).length ≤ maxL)
    (body : ∀ (p : Program) (e : Env) (s : State) (m : MethodId) (args : Array Value) (below : List Frame) (meth : Method) (c : Code), zzC p s m args c bytes y.cls maxL D → meth.sig.returnType = ret → meth.locks = false → X s → s.heap.size = bs + S.2.1 → zzB p l e { frames := fr, cells := 0, slots := 0, locals := lo } s m args below meth c maxL D bs A (MQ below (zzQc D bs A S M (bs + S.2.1) res) args s 0 0 A) 0 0 S M (bs + S.2.1) 0 (lv_args 0 av) []) :
    Met l y (Cond.code y bytes maxL ret :: zzW) { frames := fr, cells := 0, slots := 0, locals := lo } (zzPcX D bs A X S M av) (zzQc D bs A S M (bs + S.2.1) res) 0 0 A := by
  refine Met.ofW (cc := bytes) (maxL := maxL) (ret := ret) hy rfl ?_
  intro p e s m args below meth c s₁ B hml hv
  obtain ⟨rfl, hR, hK, hX⟩ := hv
  have hts := atoms_spec (ws := Cond.code y bytes maxL ret :: zzW) B.pre
  have hl := lv_entry av (n := maxL) hav
  rw [lg_entry_eq]
  exact body p e s m _ below meth c ⟨B.exec, B.bytes, hml, findClass_of_methodNamed B.named, fun w hw => hts w (List.mem_cons_of_mem _ hw), hK⟩ B.returns B.notSynchronized hX hR.1 s.heap [] _ hR va_S.rf hl
theorem zz_ifs {c : Prop} {i : Decidable c} (h : @ite _ c i (some ()) none = some ()) : c := by
  by_cases hc : c
  · exact hc
  · rw [if_neg hc] at h; cases h
section ZSTR
variable {p : Program} {l : Launch} {e : Env} {R : Room} {s : State} {m : MethodId} {args : Array Value} {below : List Frame} {meth : Method} {c : Code} {cells slots : Nat} {Q : State → Prop} {cc : ByteArray} {own : String} {nL : Nat} {D : zzD} {bs : Nat} {A : Nat → Prop} {S : zzS} {M : zzM} {pc : Nat} {lv lv' : List (Nat × Value)} {st : List Value} {X : State → Prop} {adK adV : Nat → Nat} {hz : Nat}
theorem zi_ldcS (C : zzC p s m args c cc own nL D) (hs : zzStr bs adK adV s) (hAb : ∀ q : Nat, A q → bs ≤ q) {index : Nat} (q : Nat) (hq : q < 11) (hown : own = "BoardScript$Reader") (hi : zzsk.getD q 0 = index) (d : decode cc pc = .ok (.ldc index, 2)) (kk : zzB p l e R s m args below meth c nL D bs A Q cells slots S M hz (pc + 2) lv (.ref (adK q) :: st)) : zzB p l e R s m args below meth c nL D bs A Q cells slots S M hz pc lv st := fun H locs ls hR hS hl => by
  subst hown; subst hi
  exact va_ldcS C.1 C.2.1 C.2.2.2.1 (hs.1 q hq) d (kk H locs ls hR hS hl)
theorem zi_sgetV (C : zzC p s m args c cc own nL D) (hs : zzStr bs adK adV s) (hAb : ∀ q : Nat, A q → bs ≤ q) {index q : Nat} (hq : q < 11) (hlink : Cond.fieldLink own index "java/lang/String" "value" "[B" ∈ zzW) (d : decode cc pc = .ok (.getfield index, 3)) (kk : zzB p l e R s m args below meth c nL D bs A Q cells slots S M hz (pc + 3) lv (.ref (adV q) :: st)) : zzB p l e R s m args below meth c nL D bs A Q cells slots S M hz pc lv (.ref (adK q) :: st) := fun H locs ls hR hS hl => vk_getf C.1 C.2.1 ((hs.2.1.narrow hAb).1 q hq).2.2.1 hS C.2.2.2.1 (C.2.2.2.2.1 _ hlink) (fun _ h => h) d (kk H locs ls hR hS hl)
theorem zi_sgetC (C : zzC p s m args c cc own nL D) (hs : zzStr bs adK adV s) (hAb : ∀ q : Nat, A q → bs ≤ q) {index q : Nat} (hq : q < 11) (hlink : Cond.fieldLink own index "java/lang/String" "coder" "B" ∈ zzW) (d : decode cc pc = .ok (.getfield index, 3)) (kk : zzB p l e R s m args below meth c nL D bs A Q cells slots S M hz (pc + 3) lv (.int 0 :: st)) : zzB p l e R s m args below meth c nL D bs A Q cells slots S M hz pc lv (.ref (adK q) :: st) := fun H locs ls hR hS hl => vk_getf C.1 C.2.1 ((hs.2.1.narrow hAb).1 q hq).2.1 hS C.2.2.2.1 (C.2.2.2.2.1 _ hlink) (fun _ h => h) d (kk H locs ls hR hS hl)
theorem zi_sblen (C : zzC p s m args c cc own nL D) (hs : zzStr bs adK adV s) (hAb : ∀ q : Nat, A q → bs ≤ q) {q : Nat} (hq : q < 11) (d : decode cc pc = .ok (.arraylength, 1)) (kk : zzB p l e R s m args below meth c nL D bs A Q cells slots S M hz (pc + 1) lv (.int (nI (zzsl q)) :: st)) : zzB p l e R s m args below meth c nL D bs A Q cells slots S M hz pc lv (.ref (adV q) :: st) := fun H locs ls hR hS hl => va_tlen C.1 C.2.1 ((hs.2.1.narrow hAb).1 q hq).2.2.2 hS rfl d (kk H locs ls hR hS hl)
theorem zi_sbald (C : zzC p s m args c cc own nL D) (hs : zzStr bs adK adV s) (hAb : ∀ q : Nat, A q → bs ≤ q) {q : Nat} {i : Int32} (hq : q < 11) (hi : vp_in i (zzsl q)) (d : decode cc pc = .ok (.baload, 1)) (kk : zzB p l e R s m args below meth c nL D bs A Q cells slots S M hz (pc + 1) lv (.int (zzsb q i.toNatClampNeg) :: st)) : zzB p l e R s m args below meth c nL D bs A Q cells slots S M hz pc lv (.int i :: .ref (adV q) :: st) := fun H locs ls hR hS hl => va_tb C.1 C.2.1 ((hs.2.1.narrow hAb).1 q hq).2.2.2 hS hi rfl d (kk H locs ls hR hS hl)
theorem zi_sgets (C : zzC p s m args c cc own nL D) (hs : zzStr bs adK adV s) (hAb : ∀ q : Nat, A q → bs ≤ q) {index : Nat} (hlink : Cond.fieldLink own index "java/lang/String" "COMPACT_STRINGS" "Z" ∈ zzW) (d : decode cc pc = .ok (.getstatic index, 3)) (kk : zzB p l e R s m args below meth c nL D bs A Q cells slots S M hz (pc + 3) lv (.int 1 :: st)) : zzB p l e R s m args below meth c nL D bs A Q cells slots S M hz pc lv st := fun H locs ls hR hS hl => va_gets C.1 C.2.1 (hs.2.2.1.narrow hAb) hS C.2.2.2.1 (C.2.2.2.2.1 _ hlink) (fun _ h => h) d (kk H locs ls hR hS hl)
theorem zi_sgetF (C : zzC p s m args c cc own nL D) (hs : zzStr bs adK adV s) (hAb : ∀ q : Nat, A q → bs ≤ q) {index : Nat} (hlink : Cond.fieldLink own index "jdk/internal/util/Preconditions" "SIOOBE_FORMATTER" "Ljava/util/function/BiFunction;" ∈ zzW) (d : decode cc pc = .ok (.getstatic index, 3)) (kk : ∀ v : Value, (v = .null ∨ ∃ t, v = .ref t) → zzB p l e R s m args below meth c nL D bs A Q cells slots S M hz (pc + 3) lv (v :: st)) : zzB p l e R s m args below meth c nL D bs A Q cells slots S M hz pc lv st := fun H locs ls hR hS hl => by
  rcases hs.2.2.2.narrow hAb with h | ⟨t, h⟩
  · exact va_gets C.1 C.2.1 h hS C.2.2.2.1 (C.2.2.2.2.1 _ hlink) (fun _ h => h) d (kk _ (Or.inl rfl) H locs ls hR hS hl)
  · exact va_gets C.1 C.2.1 h hS C.2.2.2.1 (C.2.2.2.2.1 _ hlink) (fun _ h => h) d (kk _ (Or.inr ⟨t, rfl⟩) H locs ls hR hS hl)
theorem zi_callXS (C : zzC p s m args c cc own nL D) (hX : X s) (hXs : zzStab bs X) (hAb : ∀ q : Nat, A q → bs ≤ q) (hsz : bs ≤ s.heap.size) {y : MethodName} {bytes : ByteArray} {maxL index n fr lo : Nat} {res : Option Value} {ret : Option FieldType} {As stk : List Value} (hM : Met l y (Cond.code y bytes maxL ret :: zzW) { frames := fr, cells := 0, slots := 0, locals := lo } (zzPcX D bs A X S M As) (zzQc D bs A S M (bs + S.2.1) res) 0 0 A) (hcode : Cond.code y bytes maxL ret ∈ zzW) (hini : Cond.initialized y.cls ∈ zzW) (hd : y.cls ≠ "java/lang/invoke/MethodHandle" ∧ y.cls ≠ "java/lang/invoke/VarHandle" ∧ (parseMethodDescriptor y.desc).map (fun d => d.parameters.length) = some n) (hRm : fr + 1 ≤ R.frames ∧ 8 + (maxL + 11) + lo ≤ R.locals) (hn : As.length = n) (hw : (st.map fun v => v.category).sum ≤ 8) (hf : cells + 0 ≤ R.cells ∧ slots + 0 ≤ R.slots) (hlink : Cond.methodLink own index y ∈ zzW) (hst : Cond.static y ∈ zzW) (hstk : stk = As.reverse ++ st) (d : decode cc pc = .ok (.invokestatic index, 3)) (kk : zzB p l e R s m args below meth c nL D bs A Q cells slots S M (bs + S.2.1) (pc + 3) lv (res.toList ++ st)) : zzB p l e R s m args below meth c nL D bs A Q cells slots S M (bs + S.2.1) pc lv stk := by
  subst hstk
  intro H locs ls hR hS hl
  refine zz_after (va_runS (n := n) (bytes := bytes) (maxL := maxL) (ret := ret) (As := As) (rest := st) (nL := nL) (Ts := zzW) ⟨C.1, C.2.1, C.2.2.1, C.2.2.2.1, C.2.2.2.2.1⟩ hM ⟨callB_of (ws' := zzW) n C.2.2.2.2.1 (zz_good hcode) rfl rfl rfl (C.2.2.2.2.1 _ hini) (C.2.2.2.2.1 _ hlink) hd hRm, C.2.2.2.2.1 _ hst⟩ ⟨zzPcX.blind hXs, fun U hU hW => ⟨rfl, by rw [hU]; exact hR, C.2.2.2.2.2.moved hW.alike, hXs.1 s U hX hW (fun q hq => by rw [hU]; exact hS.2.1 q (by omega) (fun hq' => absurd (hAb q hq') (by omega)))⟩⟩ rfl hn hl.1 rfl (lv_room hw) d hf) hS hl kk
theorem zi_callXV (C : zzC p s m args c cc own nL D) (hX : X s) (hXs : zzStab bs X) (hAb : ∀ q : Nat, A q → bs ≤ q) (hsz : bs ≤ s.heap.size) (hs : zzStr bs adK adV s) {y : MethodName} {bytes : ByteArray} {maxL index n fr lo q : Nat} {r : Int32} {ret : Option FieldType} {As stk : List Value} (hq : q < 11) (hyc : y.cls = "java/lang/String") (hM : Met l y (Cond.code y bytes maxL ret :: zzW) { frames := fr, cells := 0, slots := 0, locals := lo } (zzPcX D bs A X S M (Value.ref (adK q) :: As)) (zzQc D bs A S M (bs + S.2.1) (some (.int r))) 0 0 A) (hcode : Cond.code y bytes maxL ret ∈ zzW) (hini : Cond.initialized y.cls ∈ zzW) (hd : y.cls ≠ "java/lang/invoke/MethodHandle" ∧ y.cls ≠ "java/lang/invoke/VarHandle" ∧ (parseMethodDescriptor y.desc).map (fun d => d.parameters.length) = some n) (hRm : fr + 1 ≤ R.frames ∧ 8 + (maxL + 11) + lo ≤ R.locals) (hn : As.length = n) (hw : (st.map fun v => v.category).sum ≤ 8) (hf : cells + 0 ≤ R.cells ∧ slots + 0 ≤ R.slots) (hlink : Cond.methodLink own index y ∈ zzW) (hinst : Cond.instanceMethod y ∈ zzW) (hsel : Cond.selects y.cls y y ∈ zzW) (hstk : stk = As.reverse ++ .ref (adK q) :: st) (d : decode cc pc = .ok (.invokevirtual index, 3)) (kk : zzB p l e R s m args below meth c nL D bs A Q cells slots S M (bs + S.2.1) (pc + 3) lv (.int r :: st)) : zzB p l e R s m args below meth c nL D bs A Q cells slots S M (bs + S.2.1) pc lv stk := by
  subst hstk
  intro H locs ls hR hS hl
  obtain ⟨cell, g1, g2, g3⟩ := vk_recv (hs.2.1.narrow hAb) hq hS
  refine zz_after (res := some (.int r)) (va_runV (n := n) (bytes := bytes) (maxL := maxL) (ret := ret) (C := y.cls) (As := As) (rest := st) (nL := nL) (Ts := zzW) ⟨C.1, C.2.1, C.2.2.1, C.2.2.2.1, C.2.2.2.2.1⟩ hM ⟨callB_of (ws' := zzW) n C.2.2.2.2.1 (zz_good hcode) rfl rfl rfl (C.2.2.2.2.1 _ hini) (C.2.2.2.2.1 _ hlink) hd hRm, C.2.2.2.2.1 _ hinst, C.2.2.2.2.1 _ hsel⟩ ⟨zzPcX.blind hXs, ⟨cell, g1, g2, by rw [hyc]; exact g3⟩, fun U hU hW => ⟨rfl, by rw [hU]; exact hR, C.2.2.2.2.2.moved hW.alike, hXs.1 s U hX hW (fun q hq => by rw [hU]; exact hS.2.1 q (by omega) (fun hq' => absurd (hAb q hq') (by omega)))⟩⟩ rfl hn hl.1 rfl (lv_room hw) d hf) hS hl kk
end ZSTR
def y_JisEmpty : MethodName := ⟨"java/lang/String", "isEmpty", "()Z"⟩
def y_Jlength : MethodName := ⟨"java/lang/String", "length", "()I"⟩
def y_Jcoder : MethodName := ⟨"java/lang/String", "coder", "()B"⟩
def y_JcharAt : MethodName := ⟨"java/lang/String", "charAt", "(I)C"⟩
def y_JisLatin1 : MethodName := ⟨"java/lang/String", "isLatin1", "()Z"⟩
def y_Jl1 : MethodName := ⟨"java/lang/StringLatin1", "charAt", "([BI)C"⟩
def y_Jci : MethodName := ⟨"java/lang/String", "checkIndex", "(II)V"⟩
def y_Jpc : MethodName := ⟨"jdk/internal/util/Preconditions", "checkIndex", "(IILjava/util/function/BiFunction;)I"⟩
set_option maxRecDepth 100000 in
theorem jc_isEmpty : Cond.code y_JisEmpty prog_19_method_55_code 1 (some .boolean) ∈ zzW := zz_w (i := 405) rfl rfl
set_option maxRecDepth 100000 in
theorem jc_length : Cond.code y_Jlength prog_19_method_54_code 1 (some .int) ∈ zzW := zz_w (i := 460) rfl rfl
set_option maxRecDepth 100000 in
theorem jc_coder : Cond.code y_Jcoder prog_19_method_152_code 1 (some .byte) ∈ zzW := zz_w (i := 464) rfl rfl
set_option maxRecDepth 100000 in
theorem jc_charAt : Cond.code y_JcharAt prog_19_method_56_code 2 (some .char) ∈ zzW := zz_w (i := 470) rfl rfl
set_option maxRecDepth 100000 in
theorem jc_isLatin1 : Cond.code y_JisLatin1 prog_19_method_154_code 1 (some .boolean) ∈ zzW := zz_w (i := 474) rfl rfl
set_option maxRecDepth 100000 in
theorem jc_l1 : Cond.code y_Jl1 prog_20_method_2_code 2 (some .char) ∈ zzW := zz_w (i := 477) rfl rfl
set_option maxRecDepth 100000 in
theorem jc_ci : Cond.code y_Jci prog_19_method_155_code 2 none ∈ zzW := zz_w (i := 480) rfl rfl
set_option maxRecDepth 100000 in
theorem jc_pc : Cond.code y_Jpc prog_25_method_11_code 3 (some .int) ∈ zzW := zz_w (i := 485) rfl rfl
set_option maxRecDepth 100000 in
theorem ji_isEmpty : Cond.instanceMethod y_JisEmpty ∈ zzW := zz_w (i := 403) (by decide +kernel) (by decide +kernel)
set_option maxRecDepth 100000 in
theorem js_isEmpty : Cond.selects y_JisEmpty.cls y_JisEmpty y_JisEmpty ∈ zzW := zz_w (i := 404) (by decide +kernel) (by decide +kernel)
set_option maxRecDepth 100000 in
theorem ji_length : Cond.instanceMethod y_Jlength ∈ zzW := zz_w (i := 458) (by decide +kernel) (by decide +kernel)
set_option maxRecDepth 100000 in
theorem js_length : Cond.selects y_Jlength.cls y_Jlength y_Jlength ∈ zzW := zz_w (i := 459) (by decide +kernel) (by decide +kernel)
set_option maxRecDepth 100000 in
theorem ji_coder : Cond.instanceMethod y_Jcoder ∈ zzW := zz_w (i := 462) (by decide +kernel) (by decide +kernel)
set_option maxRecDepth 100000 in
theorem js_coder : Cond.selects y_Jcoder.cls y_Jcoder y_Jcoder ∈ zzW := zz_w (i := 463) (by decide +kernel) (by decide +kernel)
set_option maxRecDepth 100000 in
theorem ji_charAt : Cond.instanceMethod y_JcharAt ∈ zzW := zz_w (i := 468) (by decide +kernel) (by decide +kernel)
set_option maxRecDepth 100000 in
theorem js_charAt : Cond.selects y_JcharAt.cls y_JcharAt y_JcharAt ∈ zzW := zz_w (i := 469) (by decide +kernel) (by decide +kernel)
set_option maxRecDepth 100000 in
theorem ji_isLatin1 : Cond.instanceMethod y_JisLatin1 ∈ zzW := zz_w (i := 472) (by decide +kernel) (by decide +kernel)
set_option maxRecDepth 100000 in
theorem js_isLatin1 : Cond.selects y_JisLatin1.cls y_JisLatin1 y_JisLatin1 ∈ zzW := zz_w (i := 473) (by decide +kernel) (by decide +kernel)
set_option maxRecDepth 100000 in
theorem jt_l1 : Cond.static y_Jl1 ∈ zzW := zz_w (i := 476) (by decide +kernel) (by decide +kernel)
set_option maxRecDepth 100000 in
theorem jt_ci : Cond.static y_Jci ∈ zzW := zz_w (i := 479) (by decide +kernel) (by decide +kernel)
set_option maxRecDepth 100000 in
theorem jt_pc : Cond.static y_Jpc ∈ zzW := zz_w (i := 484) (by decide +kernel) (by decide +kernel)
set_option maxRecDepth 100000 in
theorem jl_coder : Cond.methodLink "java/lang/String" 335 y_Jcoder ∈ zzW := zz_w (i := 461) (by decide +kernel) (by decide +kernel)
set_option maxRecDepth 100000 in
theorem jl_isLatin1 : Cond.methodLink "java/lang/String" 492 y_JisLatin1 ∈ zzW := zz_w (i := 471) (by decide +kernel) (by decide +kernel)
set_option maxRecDepth 100000 in
theorem jl_l1 : Cond.methodLink "java/lang/String" 495 y_Jl1 ∈ zzW := zz_w (i := 475) (by decide +kernel) (by decide +kernel)
set_option maxRecDepth 100000 in
theorem jl_ci : Cond.methodLink "java/lang/StringLatin1" 9 y_Jci ∈ zzW := zz_w (i := 478) (by decide +kernel) (by decide +kernel)
set_option maxRecDepth 100000 in
theorem jl_pc : Cond.methodLink "java/lang/String" 1059 y_Jpc ∈ zzW := zz_w (i := 483) (by decide +kernel) (by decide +kernel)
set_option maxRecDepth 100000 in
theorem jl_isEmpty : Cond.methodLink "BoardScript$Reader" 75 y_JisEmpty ∈ zzW := zz_w (i := 402) (by decide +kernel) (by decide +kernel)
set_option maxRecDepth 100000 in
theorem jl_length : Cond.methodLink "BoardScript$Reader" 85 y_Jlength ∈ zzW := zz_w (i := 457) (by decide +kernel) (by decide +kernel)
set_option maxRecDepth 100000 in
theorem jl_charAt : Cond.methodLink "BoardScript$Reader" 88 y_JcharAt ∈ zzW := zz_w (i := 467) (by decide +kernel) (by decide +kernel)
set_option maxRecDepth 100000 in
theorem jf_value : Cond.fieldLink "java/lang/String" 9 "java/lang/String" "value" "[B" ∈ zzW := zz_w (i := 1340) (by decide +kernel) (by decide +kernel)
set_option maxRecDepth 100000 in
theorem jf_coder : Cond.fieldLink "java/lang/String" 15 "java/lang/String" "coder" "B" ∈ zzW := zz_w (i := 1341) (by decide +kernel) (by decide +kernel)
set_option maxRecDepth 100000 in
theorem jf_compact : Cond.fieldLink "java/lang/String" 38 "java/lang/String" "COMPACT_STRINGS" "Z" ∈ zzW := zz_w (i := 465) (by decide +kernel) (by decide +kernel)
set_option maxRecDepth 100000 in
theorem jf_form : Cond.fieldLink "java/lang/String" 1053 "jdk/internal/util/Preconditions" "SIOOBE_FORMATTER" "Ljava/util/function/BiFunction;" ∈ zzW := zz_w (i := 481) (by decide +kernel) (by decide +kernel)
set_option maxRecDepth 100000 in
theorem jn_String : Cond.initialized "java/lang/String" ∈ zzW := zz_w (i := 84) (by decide +kernel) (by decide +kernel)
set_option maxRecDepth 100000 in
theorem jn_L1 : Cond.initialized "java/lang/StringLatin1" ∈ zzW := zz_w (i := 85) (by decide +kernel) (by decide +kernel)
set_option maxRecDepth 100000 in
theorem jn_Pre : Cond.initialized "jdk/internal/util/Preconditions" ∈ zzW := zz_w (i := 86) (by decide +kernel) (by decide +kernel)
theorem dJisEmpty_0 : decode prog_19_method_55_code 0 = .ok (.aload_n 0, 1) := by decide +kernel
theorem dJisEmpty_1 : decode prog_19_method_55_code 1 = .ok (.getfield 9, 3) := by decide +kernel
theorem dJisEmpty_4 : decode prog_19_method_55_code 4 = .ok (.arraylength, 1) := by decide +kernel
theorem dJisEmpty_5 : decode prog_19_method_55_code 5 = .ok (.ifCond .ne 7, 3) := by decide +kernel
theorem dJisEmpty_8 : decode prog_19_method_55_code 8 = .ok (.iconst 1, 1) := by decide +kernel
theorem dJisEmpty_9 : decode prog_19_method_55_code 9 = .ok (.goto 4, 3) := by decide +kernel
theorem dJisEmpty_12 : decode prog_19_method_55_code 12 = .ok (.iconst 0, 1) := by decide +kernel
theorem dJisEmpty_13 : decode prog_19_method_55_code 13 = .ok (.ireturn, 1) := by decide +kernel
theorem dJlength_0 : decode prog_19_method_54_code 0 = .ok (.aload_n 0, 1) := by decide +kernel
theorem dJlength_1 : decode prog_19_method_54_code 1 = .ok (.getfield 9, 3) := by decide +kernel
theorem dJlength_4 : decode prog_19_method_54_code 4 = .ok (.arraylength, 1) := by decide +kernel
theorem dJlength_5 : decode prog_19_method_54_code 5 = .ok (.aload_n 0, 1) := by decide +kernel
theorem dJlength_6 : decode prog_19_method_54_code 6 = .ok (.invokevirtual 335, 3) := by decide +kernel
theorem dJlength_9 : decode prog_19_method_54_code 9 = .ok (.ishr, 1) := by decide +kernel
theorem dJlength_10 : decode prog_19_method_54_code 10 = .ok (.ireturn, 1) := by decide +kernel
theorem dJcoder_0 : decode prog_19_method_152_code 0 = .ok (.getstatic 38, 3) := by decide +kernel
theorem dJcoder_3 : decode prog_19_method_152_code 3 = .ok (.ifCond .eq 10, 3) := by decide +kernel
theorem dJcoder_6 : decode prog_19_method_152_code 6 = .ok (.aload_n 0, 1) := by decide +kernel
theorem dJcoder_7 : decode prog_19_method_152_code 7 = .ok (.getfield 15, 3) := by decide +kernel
theorem dJcoder_10 : decode prog_19_method_152_code 10 = .ok (.goto 4, 3) := by decide +kernel
theorem dJcoder_14 : decode prog_19_method_152_code 14 = .ok (.ireturn, 1) := by decide +kernel
theorem dJisLatin1_0 : decode prog_19_method_154_code 0 = .ok (.getstatic 38, 3) := by decide +kernel
theorem dJisLatin1_3 : decode prog_19_method_154_code 3 = .ok (.ifCond .eq 14, 3) := by decide +kernel
theorem dJisLatin1_6 : decode prog_19_method_154_code 6 = .ok (.aload_n 0, 1) := by decide +kernel
theorem dJisLatin1_7 : decode prog_19_method_154_code 7 = .ok (.getfield 15, 3) := by decide +kernel
theorem dJisLatin1_10 : decode prog_19_method_154_code 10 = .ok (.ifCond .ne 7, 3) := by decide +kernel
theorem dJisLatin1_13 : decode prog_19_method_154_code 13 = .ok (.iconst 1, 1) := by decide +kernel
theorem dJisLatin1_14 : decode prog_19_method_154_code 14 = .ok (.goto 4, 3) := by decide +kernel
theorem dJisLatin1_18 : decode prog_19_method_154_code 18 = .ok (.ireturn, 1) := by decide +kernel
theorem dJcharAt_0 : decode prog_19_method_56_code 0 = .ok (.aload_n 0, 1) := by decide +kernel
theorem dJcharAt_1 : decode prog_19_method_56_code 1 = .ok (.invokevirtual 492, 3) := by decide +kernel
theorem dJcharAt_4 : decode prog_19_method_56_code 4 = .ok (.ifCond .eq 12, 3) := by decide +kernel
theorem dJcharAt_7 : decode prog_19_method_56_code 7 = .ok (.aload_n 0, 1) := by decide +kernel
theorem dJcharAt_8 : decode prog_19_method_56_code 8 = .ok (.getfield 9, 3) := by decide +kernel
theorem dJcharAt_11 : decode prog_19_method_56_code 11 = .ok (.iload_n 1, 1) := by decide +kernel
theorem dJcharAt_12 : decode prog_19_method_56_code 12 = .ok (.invokestatic 495, 3) := by decide +kernel
theorem dJcharAt_15 : decode prog_19_method_56_code 15 = .ok (.ireturn, 1) := by decide +kernel
theorem dJl1_0 : decode prog_20_method_2_code 0 = .ok (.iload_n 1, 1) := by decide +kernel
theorem dJl1_1 : decode prog_20_method_2_code 1 = .ok (.aload_n 0, 1) := by decide +kernel
theorem dJl1_2 : decode prog_20_method_2_code 2 = .ok (.arraylength, 1) := by decide +kernel
theorem dJl1_3 : decode prog_20_method_2_code 3 = .ok (.invokestatic 9, 3) := by decide +kernel
theorem dJl1_6 : decode prog_20_method_2_code 6 = .ok (.aload_n 0, 1) := by decide +kernel
theorem dJl1_7 : decode prog_20_method_2_code 7 = .ok (.iload_n 1, 1) := by decide +kernel
theorem dJl1_8 : decode prog_20_method_2_code 8 = .ok (.baload, 1) := by decide +kernel
theorem dJl1_9 : decode prog_20_method_2_code 9 = .ok (.sipush 255, 3) := by decide +kernel
theorem dJl1_12 : decode prog_20_method_2_code 12 = .ok (.iand, 1) := by decide +kernel
theorem dJl1_13 : decode prog_20_method_2_code 13 = .ok (.i2c, 1) := by decide +kernel
theorem dJl1_14 : decode prog_20_method_2_code 14 = .ok (.ireturn, 1) := by decide +kernel
theorem dJci_0 : decode prog_19_method_155_code 0 = .ok (.iload_n 0, 1) := by decide +kernel
theorem dJci_1 : decode prog_19_method_155_code 1 = .ok (.iload_n 1, 1) := by decide +kernel
theorem dJci_2 : decode prog_19_method_155_code 2 = .ok (.getstatic 1053, 3) := by decide +kernel
theorem dJci_5 : decode prog_19_method_155_code 5 = .ok (.invokestatic 1059, 3) := by decide +kernel
theorem dJci_8 : decode prog_19_method_155_code 8 = .ok (.pop, 1) := by decide +kernel
theorem dJci_9 : decode prog_19_method_155_code 9 = .ok (.return_, 1) := by decide +kernel
theorem dJpc_0 : decode prog_25_method_11_code 0 = .ok (.iload_n 0, 1) := by decide +kernel
theorem dJpc_1 : decode prog_25_method_11_code 1 = .ok (.ifCond .lt 8, 3) := by decide +kernel
theorem dJpc_4 : decode prog_25_method_11_code 4 = .ok (.iload_n 0, 1) := by decide +kernel
theorem dJpc_5 : decode prog_25_method_11_code 5 = .ok (.iload_n 1, 1) := by decide +kernel
theorem dJpc_6 : decode prog_25_method_11_code 6 = .ok (.if_icmp .lt 10, 3) := by decide +kernel
theorem dJpc_16 : decode prog_25_method_11_code 16 = .ok (.iload_n 0, 1) := by decide +kernel
theorem dJpc_17 : decode prog_25_method_11_code 17 = .ok (.ireturn, 1) := by decide +kernel
set_option maxHeartbeats 4000000 in
set_option maxRecDepth 100000 in
theorem c_JisEmpty {l : Launch} {D : zzD} {bs : Nat} {A : Nat → Prop} {X : State → Prop} {S : zzS} {M : zzM} {adK adV : Nat → Nat} (hAb : ∀ q : Nat, A q → bs ≤ q) (hXs : zzStab bs X) (hnx : ∀ U : State, X U → zzXF bs adK adV U) {q : Nat} (hq : q < 11) : Met l y_JisEmpty (Cond.code y_JisEmpty prog_19_method_55_code 1 (some .boolean) :: zzW) { frames := 0, cells := 0, slots := 0, locals := 0 } (zzPcX D bs A X S M [.ref (adK q)]) (zzQc D bs A S M (bs + S.2.1) (some (.int (zzsE q)))) 0 0 A := by
  refine zz_metS [.ref (adK q)] (by decide) (Nat.le_of_ble_eq_true rfl) (fun p e s m args below meth c C hr hlocks hX hsz => ?_)
  have hs := (hnx s hX).2
  refine zz_eq (lv' := [(0, .ref (adK q))]) (st' := []) rfl rfl ?_
  have hz0 : nI (zzsl q) = 0 ↔ zzsl q = 0 := by
    have : ∀ q, q < 11 → (nI (zzsl q) = 0 ↔ zzsl q = 0) := by decide +kernel
    exact this q hq
  refine zi_aload_n C dJisEmpty_0 rfl 0 rfl ?_
  refine zi_sgetV C hs hAb hq jf_value dJisEmpty_1 ?_
  refine zi_sblen C hs hAb hq dJisEmpty_4 ?_
  by_cases h0 : zzsl q = 0
  · refine zi_if_ne (i := inferInstance) (tgt := 12) (Ft := none) (Ff := some ()) (out := ()) C dJisEmpty_5 (by decide) (if_pos (hz0.mpr h0)) (fun h => by cases h) (fun _ => ?_)
    refine zi_iconst (v := 1) C dJisEmpty_8 (by decide) ?_
    refine zi_goto (tgt := 13) C dJisEmpty_9 (by decide) ?_
    exact zi_zret C hlocks hr (by decide +kernel) dJisEmpty_13 (by rw [zzsE, if_pos h0]) rfl rfl rfl
  · refine zi_if_ne (i := inferInstance) (tgt := 12) (Ft := some ()) (Ff := none) (out := ()) C dJisEmpty_5 (by decide) (if_neg (fun h => h0 (hz0.mp h))) (fun _ => ?_) (fun h => by cases h)
    refine zi_iconst (v := 0) C dJisEmpty_12 (by decide) ?_
    exact zi_zret C hlocks hr (by decide +kernel) dJisEmpty_13 (by rw [zzsE, if_neg h0]) rfl rfl rfl
set_option maxHeartbeats 4000000 in
set_option maxRecDepth 100000 in
theorem c_Jcoder {l : Launch} {D : zzD} {bs : Nat} {A : Nat → Prop} {X : State → Prop} {S : zzS} {M : zzM} {adK adV : Nat → Nat} (hAb : ∀ q : Nat, A q → bs ≤ q) (hXs : zzStab bs X) (hnx : ∀ U : State, X U → zzXF bs adK adV U) {q : Nat} (hq : q < 11) : Met l y_Jcoder (Cond.code y_Jcoder prog_19_method_152_code 1 (some .byte) :: zzW) { frames := 0, cells := 0, slots := 0, locals := 0 } (zzPcX D bs A X S M [.ref (adK q)]) (zzQc D bs A S M (bs + S.2.1) (some (.int 0))) 0 0 A := by
  refine zz_metS [.ref (adK q)] (by decide) (Nat.le_of_ble_eq_true rfl) (fun p e s m args below meth c C hr hlocks hX hsz => ?_)
  have hs := (hnx s hX).2
  refine zz_eq (lv' := [(0, .ref (adK q))]) (st' := []) rfl rfl ?_
  refine zi_sgets C hs hAb jf_compact dJcoder_0 ?_
  refine zi_if_eq (i := inferInstance) (tgt := 13) (Ft := none) (Ff := some ()) (out := ()) C dJcoder_3 (by decide) (if_neg (by decide)) (fun h => by cases h) (fun _ => ?_)
  refine zi_aload_n C dJcoder_6 rfl 0 rfl ?_
  refine zi_sgetC C hs hAb hq jf_coder dJcoder_7 ?_
  refine zi_goto (tgt := 14) C dJcoder_10 (by decide) ?_
  exact zi_zret C hlocks hr (by decide +kernel) dJcoder_14 rfl rfl rfl rfl
set_option maxHeartbeats 4000000 in
set_option maxRecDepth 100000 in
theorem c_JisLatin1 {l : Launch} {D : zzD} {bs : Nat} {A : Nat → Prop} {X : State → Prop} {S : zzS} {M : zzM} {adK adV : Nat → Nat} (hAb : ∀ q : Nat, A q → bs ≤ q) (hXs : zzStab bs X) (hnx : ∀ U : State, X U → zzXF bs adK adV U) {q : Nat} (hq : q < 11) : Met l y_JisLatin1 (Cond.code y_JisLatin1 prog_19_method_154_code 1 (some .boolean) :: zzW) { frames := 0, cells := 0, slots := 0, locals := 0 } (zzPcX D bs A X S M [.ref (adK q)]) (zzQc D bs A S M (bs + S.2.1) (some (.int 1))) 0 0 A := by
  refine zz_metS [.ref (adK q)] (by decide) (Nat.le_of_ble_eq_true rfl) (fun p e s m args below meth c C hr hlocks hX hsz => ?_)
  have hs := (hnx s hX).2
  refine zz_eq (lv' := [(0, .ref (adK q))]) (st' := []) rfl rfl ?_
  refine zi_sgets C hs hAb jf_compact dJisLatin1_0 ?_
  refine zi_if_eq (i := inferInstance) (tgt := 17) (Ft := none) (Ff := some ()) (out := ()) C dJisLatin1_3 (by decide) (if_neg (by decide)) (fun h => by cases h) (fun _ => ?_)
  refine zi_aload_n C dJisLatin1_6 rfl 0 rfl ?_
  refine zi_sgetC C hs hAb hq jf_coder dJisLatin1_7 ?_
  refine zi_if_ne (i := inferInstance) (tgt := 17) (Ft := none) (Ff := some ()) (out := ()) C dJisLatin1_10 (by decide) (if_pos rfl) (fun h => by cases h) (fun _ => ?_)
  refine zi_iconst (v := 1) C dJisLatin1_13 (by decide) ?_
  refine zi_goto (tgt := 18) C dJisLatin1_14 (by decide) ?_
  exact zi_zret C hlocks hr (by decide +kernel) dJisLatin1_18 rfl rfl rfl rfl
set_option maxHeartbeats 4000000 in
set_option maxRecDepth 100000 in
theorem c_Jlength {l : Launch} {D : zzD} {bs : Nat} {A : Nat → Prop} {X : State → Prop} {S : zzS} {M : zzM} {adK adV : Nat → Nat} (hAb : ∀ q : Nat, A q → bs ≤ q) (hXs : zzStab bs X) (hnx : ∀ U : State, X U → zzXF bs adK adV U) {q : Nat} (hq : q < 11) : Met l y_Jlength (Cond.code y_Jlength prog_19_method_54_code 1 (some .int) :: zzW) { frames := 1, cells := 0, slots := 0, locals := 40 } (zzPcX D bs A X S M [.ref (adK q)]) (zzQc D bs A S M (bs + S.2.1) (some (.int (nI (zzsl q))))) 0 0 A := by
  refine zz_metS [.ref (adK q)] (by decide) (Nat.le_of_ble_eq_true rfl) (fun p e s m args below meth c C hr hlocks hX hsz => ?_)
  have hs := (hnx s hX).2
  refine zz_eq (lv' := [(0, .ref (adK q))]) (st' := []) rfl rfl ?_
  refine zi_aload_n C dJlength_0 rfl 0 rfl ?_
  refine zi_sgetV C hs hAb hq jf_value dJlength_1 ?_
  refine zi_sblen C hs hAb hq dJlength_4 ?_
  refine zi_aload_n C dJlength_5 rfl 0 rfl ?_
  refine zi_callXV (n := 0) (As := []) (st := [.int (nI (zzsl q))]) C hX hXs hAb (by omega) hs hq rfl (c_Jcoder hAb hXs hnx hq) jc_coder jn_String (by decide +kernel) ⟨Nat.le_of_ble_eq_true rfl, Nat.le_of_ble_eq_true rfl⟩ rfl (Nat.le_of_ble_eq_true rfl) ⟨Nat.le_of_ble_eq_true rfl, Nat.le_of_ble_eq_true rfl⟩ jl_coder ji_coder js_coder rfl dJlength_6 ?_
  have hsh : nI (zzsl q) >>> ((0 : Int32) &&& 31) = nI (zzsl q) := by
    have : ∀ q, q < 11 → nI (zzsl q) >>> ((0 : Int32) &&& 31) = nI (zzsl q) := by decide +kernel
    exact this q hq
  refine zi_ishr (K := fun z => if z = nI (zzsl q) then some () else none) (out := ()) C dJlength_9 (if_pos hsh) (fun z hz => ?_)
  have hz : z = nI (zzsl q) := zz_ifs hz
  exact zi_iret C hlocks hr dJlength_10 (by rw [hz]) rfl rfl rfl
set_option maxHeartbeats 4000000 in
set_option maxRecDepth 100000 in
theorem c_Jpc {l : Launch} {D : zzD} {bs : Nat} {A : Nat → Prop} {X : State → Prop} {S : zzS} {M : zzM} {adK adV : Nat → Nat} (hAb : ∀ q : Nat, A q → bs ≤ q) (hXs : zzStab bs X) (hnx : ∀ U : State, X U → zzXF bs adK adV U) {i n : Int32} {v : Value} (hv : v = .null ∨ ∃ t, v = .ref t) (h0 : ¬ i < 0) (h1 : i < n) : Met l y_Jpc (Cond.code y_Jpc prog_25_method_11_code 3 (some .int) :: zzW) { frames := 0, cells := 0, slots := 0, locals := 0 } (zzPcX D bs A X S M [.int i, .int n, v]) (zzQc D bs A S M (bs + S.2.1) (some (.int i))) 0 0 A := by
  refine zz_metS [.int i, .int n, v] (by decide) (by rcases hv with rfl | ⟨t, rfl⟩ <;> exact Nat.le_of_ble_eq_true rfl) (fun p e s m args below meth c C hr hlocks hX hsz => ?_)
  have hs := (hnx s hX).2
  refine zz_eq (lv' := [(0, .int i), (1, .int n), (2, v)]) (st' := []) (by rcases hv with rfl | ⟨t, rfl⟩ <;> rfl) rfl ?_
  refine zi_iload_n C dJpc_0 rfl 0 rfl ?_
  refine zi_if_lt (i := inferInstance) (tgt := 9) (Ft := none) (Ff := some ()) (out := ()) C dJpc_1 (by decide) (if_neg h0) (fun h => by cases h) (fun _ => ?_)
  refine zi_iload_n C dJpc_4 rfl 0 rfl ?_
  refine zi_iload_n C dJpc_5 rfl 1 rfl ?_
  refine zi_icmp_lt (i := inferInstance) (tgt := 16) (Ft := some ()) (Ff := none) (out := ()) C dJpc_6 (by decide) (if_pos h1) (fun _ => ?_) (fun h => by cases h)
  refine zi_iload_n C dJpc_16 rfl 0 rfl ?_
  exact zi_iret C hlocks hr dJpc_17 rfl rfl rfl rfl
set_option maxHeartbeats 4000000 in
set_option maxRecDepth 100000 in
theorem c_Jci {l : Launch} {D : zzD} {bs : Nat} {A : Nat → Prop} {X : State → Prop} {S : zzS} {M : zzM} {adK adV : Nat → Nat} (hAb : ∀ q : Nat, A q → bs ≤ q) (hXs : zzStab bs X) (hnx : ∀ U : State, X U → zzXF bs adK adV U) {i n : Int32} (h0 : ¬ i < 0) (h1 : i < n) : Met l y_Jci (Cond.code y_Jci prog_19_method_155_code 2 none :: zzW) { frames := 1, cells := 0, slots := 0, locals := 40 } (zzPcX D bs A X S M [.int i, .int n]) (zzQc D bs A S M (bs + S.2.1) none) 0 0 A := by
  refine zz_metS [.int i, .int n] (by decide) (Nat.le_of_ble_eq_true rfl) (fun p e s m args below meth c C hr hlocks hX hsz => ?_)
  have hs := (hnx s hX).2
  refine zz_eq (lv' := [(0, .int i), (1, .int n)]) (st' := []) rfl rfl ?_
  refine zi_iload_n C dJci_0 rfl 0 rfl ?_
  refine zi_iload_n C dJci_1 rfl 1 rfl ?_
  refine zi_sgetF C hs hAb jf_form dJci_2 (fun v hv => ?_)
  refine zi_callXS (n := 3) (res := some (.int i)) (As := [.int i, .int n, v]) (st := []) C hX hXs hAb (by omega) (c_Jpc hAb hXs hnx hv h0 h1) jc_pc jn_Pre (by decide +kernel) ⟨Nat.le_of_ble_eq_true rfl, Nat.le_of_ble_eq_true rfl⟩ rfl (Nat.le_of_ble_eq_true rfl) ⟨Nat.le_of_ble_eq_true rfl, Nat.le_of_ble_eq_true rfl⟩ jl_pc jt_pc rfl dJci_5 ?_
  refine zi_pop C dJci_8 rfl ?_
  exact zi_vret C hlocks hr dJci_9 rfl rfl rfl rfl
set_option maxHeartbeats 4000000 in
set_option maxRecDepth 100000 in
theorem c_Jl1 {l : Launch} {D : zzD} {bs : Nat} {A : Nat → Prop} {X : State → Prop} {S : zzS} {M : zzM} {adK adV : Nat → Nat} (hAb : ∀ q : Nat, A q → bs ≤ q) (hXs : zzStab bs X) (hnx : ∀ U : State, X U → zzXF bs adK adV U) {q : Nat} {i : Int32} (hq : q < 11) (h0 : ¬ i < 0) (h1 : i.toNatClampNeg < zzsl q) : Met l y_Jl1 (Cond.code y_Jl1 prog_20_method_2_code 2 (some .char) :: zzW) { frames := 2, cells := 0, slots := 0, locals := 80 } (zzPcX D bs A X S M [.ref (adV q), .int i]) (zzQc D bs A S M (bs + S.2.1) (some (.int (zzsb q i.toNatClampNeg)))) 0 0 A := by
  refine zz_metS [.ref (adV q), .int i] (by decide) (Nat.le_of_ble_eq_true rfl) (fun p e s m args below meth c C hr hlocks hX hsz => ?_)
  have hs := (hnx s hX).2
  refine zz_eq (lv' := [(0, .ref (adV q)), (1, .int i)]) (st' := []) rfl rfl ?_
  have hl6 : zzsl q < 7 := by
    have : ∀ q, q < 11 → zzsl q < 7 := by decide +kernel
    exact this q hq
  obtain ⟨j, hj, rfl⟩ : ∃ j : Nat, j < zzsl q ∧ i = nI j := by
    obtain ⟨j, hj, e⟩ := nI_of h0
    exact ⟨j, by rw [e, nI_clamp hj] at h1; exact h1, e⟩
  have hlt : nI j < nI (zzsl q) := nI_lt hj (by omega)
  have hcl : (nI j).toNatClampNeg = j := nI_clamp (by omega)
  refine zi_iload_n C dJl1_0 rfl 1 rfl ?_
  refine zi_aload_n C dJl1_1 rfl 0 rfl ?_
  refine zi_sblen C hs hAb hq dJl1_2 ?_
  refine zi_callXS (n := 2) (res := none) (As := [.int (nI j), .int (nI (zzsl q))]) (st := []) C hX hXs hAb (by omega) (c_Jci hAb hXs hnx h0 hlt) jc_ci jn_String (by decide +kernel) ⟨Nat.le_of_ble_eq_true rfl, Nat.le_of_ble_eq_true rfl⟩ rfl (Nat.le_of_ble_eq_true rfl) ⟨Nat.le_of_ble_eq_true rfl, Nat.le_of_ble_eq_true rfl⟩ jl_ci jt_ci rfl dJl1_3 ?_
  refine zi_aload_n C dJl1_6 rfl 0 rfl ?_
  refine zi_iload_n C dJl1_7 rfl 1 rfl ?_
  refine zi_sbald C hs hAb hq (vp_in_nI hj (by omega)) dJl1_8 ?_
  rw [hcl]
  have hb : zzsb q j &&& 255 = zzsb q j ∧ ((zzsb q j).toUInt32 % 65536).toInt32 = zzsb q j := by
    have : ∀ q, q < 11 → ∀ j, j < 7 → zzsb q j &&& 255 = zzsb q j ∧ ((zzsb q j).toUInt32 % 65536).toInt32 = zzsb q j := by decide +kernel
    exact this q hq j (by omega)
  refine zi_sipush (v := 255) C dJl1_9 (by decide) ?_
  refine zi_iand (K := fun z => if z = zzsb q j then some () else none) (out := ()) C dJl1_12 (if_pos hb.1) (fun z hz => ?_)
  have hz : z = zzsb q j := zz_ifs hz
  subst hz
  refine zi_i2c (K := fun z => if z = zzsb q j then some () else none) (out := ()) C dJl1_13 (if_pos hb.2) (fun z hz => ?_)
  have hz : z = zzsb q j := zz_ifs hz
  subst hz
  have hok : zzokC (zzsb q j) = true := by simp only [zzokC, hb.2, beq_self_eq_true]
  exact zi_zret C hlocks hr (zzokC_n hok).1 dJl1_14 rfl rfl rfl rfl
set_option maxHeartbeats 4000000 in
set_option maxRecDepth 100000 in
theorem c_JcharAt {l : Launch} {D : zzD} {bs : Nat} {A : Nat → Prop} {X : State → Prop} {S : zzS} {M : zzM} {adK adV : Nat → Nat} (hAb : ∀ q : Nat, A q → bs ≤ q) (hXs : zzStab bs X) (hnx : ∀ U : State, X U → zzXF bs adK adV U) {q : Nat} {i : Int32} (hq : q < 11) (h0 : ¬ i < 0) (h1 : i.toNatClampNeg < zzsl q) : Met l y_JcharAt (Cond.code y_JcharAt prog_19_method_56_code 2 (some .char) :: zzW) { frames := 3, cells := 0, slots := 0, locals := 120 } (zzPcX D bs A X S M [.ref (adK q), .int i]) (zzQc D bs A S M (bs + S.2.1) (some (.int (zzsb q i.toNatClampNeg)))) 0 0 A := by
  refine zz_metS [.ref (adK q), .int i] (by decide) (Nat.le_of_ble_eq_true rfl) (fun p e s m args below meth c C hr hlocks hX hsz => ?_)
  have hs := (hnx s hX).2
  refine zz_eq (lv' := [(0, .ref (adK q)), (1, .int i)]) (st' := []) rfl rfl ?_
  refine zi_aload_n C dJcharAt_0 rfl 0 rfl ?_
  refine zi_callXV (n := 0) (As := []) (st := []) C hX hXs hAb (by omega) hs hq rfl (c_JisLatin1 hAb hXs hnx hq) jc_isLatin1 jn_String (by decide +kernel) ⟨Nat.le_of_ble_eq_true rfl, Nat.le_of_ble_eq_true rfl⟩ rfl (Nat.le_of_ble_eq_true rfl) ⟨Nat.le_of_ble_eq_true rfl, Nat.le_of_ble_eq_true rfl⟩ jl_isLatin1 ji_isLatin1 js_isLatin1 rfl dJcharAt_1 ?_
  refine zi_if_eq (i := inferInstance) (tgt := 16) (Ft := none) (Ff := some ()) (out := ()) C dJcharAt_4 (by decide) (if_neg (by decide)) (fun h => by cases h) (fun _ => ?_)
  refine zi_aload_n C dJcharAt_7 rfl 0 rfl ?_
  refine zi_sgetV C hs hAb hq jf_value dJcharAt_8 ?_
  refine zi_iload_n C dJcharAt_11 rfl 1 rfl ?_
  refine zi_callXS (n := 2) (res := some (.int (zzsb q i.toNatClampNeg))) (As := [.ref (adV q), .int i]) (st := []) C hX hXs hAb (by omega) (c_Jl1 hAb hXs hnx hq h0 h1) jc_l1 jn_L1 (by decide +kernel) ⟨Nat.le_of_ble_eq_true rfl, Nat.le_of_ble_eq_true rfl⟩ rfl (Nat.le_of_ble_eq_true rfl) ⟨Nat.le_of_ble_eq_true rfl, Nat.le_of_ble_eq_true rfl⟩ jl_l1 jt_l1 rfl dJcharAt_12 ?_
  have hok : zzokC (zzsb q i.toNatClampNeg) = true := by
    have hl6 : zzsl q < 7 := by
      have : ∀ q, q < 11 → zzsl q < 7 := by decide +kernel
      exact this q hq
    have : ∀ q, q < 11 → ∀ j, j < 7 → zzokC (zzsb q j) = true := by decide +kernel
    exact this q hq _ (by omega)
  exact zi_zret C hlocks hr (zzokC_n hok).1 dJcharAt_15 rfl rfl rfl rfl
