/-! the law's own frame over any predicate of the heap -/
abbrev lwA (s : State) : Nat → Prop := fun q => s.heap.size ≤ q
def lwB (p : Program) (l : Launch) (e : Env) (s : State) (m : MethodId) (b : Nat) (below : List Frame) (meth : Method) (c : Code) (P : Heap → Prop) (cells slots pc : Nat) (lv : List (Nat × Value)) (st : List Value) : Prop :=
  ∀ (H : Heap) (locs : List Loc) (ls : Array Slot), P H → va_S (lwA s) s.heap H locs → lv_has ls 8 lv → W p l e room_1 s m #[Value.ref b] below meth c H locs cells slots (lw_Z below #[Value.ref b] s) (F0 m pc ls st)
/-- the class's free cells: all new ones but the reference's -/
def lwAc (bs : Nat) : Nat → Prop := fun q => bs ≤ q ∧ ¬ (bs + 28 ≤ q ∧ q < bs + 62)
def lwAm (bs : Nat) : Nat → Prop := fun q => bs + 28 ≤ q ∧ q < bs + 62
def lwP (D : zzD) (bs : Nat) (Sc : zzS) (Mc : zzM) (Sm : zzS) (Mm : zzM) (H : Heap) : Prop := zzRep D bs (lwAc bs) Sc Mc (bs + Sc.2.1) H ∧ zzRep D bs (lwAm bs) Sm Mm (bs + Sc.2.1) H
abbrev lwK (p : Program) (s : State) (m : MethodId) (b : Nat) (c : Code) (D : zzD) : Prop := zzC p s m #[Value.ref b] c code "BoardScriptLaw" 8 D
theorem lw_keep {D : zzD} {bs : Nat} {A : Nat → Prop} {S : zzS} {M : zzM} {hz hz1 : Nat} {H H1 : Heap} (h : zzRep D bs A S M hz H) (hs : H1.size = hz1) (hk : ∀ q : Nat, q < H.size → A q → H1[q]? = H[q]?) : zzRep D bs A S M hz1 H1 := by
  refine ⟨hs, fun a ha hka => ?_⟩
  obtain ⟨q1, q2⟩ := h.2 a ha hka
  have hlt : bs + a < H.size := by
    by_cases h10 : zzk S a < 10
    · exact (Array.getElem?_eq_some_iff.mp (q2.1 h10)).1
    · obtain ⟨r, hr, cell, hc, -⟩ := q2.2 (by omega)
      exact (Array.getElem?_eq_some_iff.mp hc).1
  exact ⟨q1, q2.kept2 rfl (hk _ hlt q1) ⟨rfl, rfl, rfl⟩⟩
section LW
variable {p : Program} {l : Launch} {e : Env} {s : State} {m : MethodId} {b : Nat} {below : List Frame} {meth : Method} {c : Code} {D : zzD} {P : Heap → Prop} {cells slots pc : Nat} {lv lv' : List (Nat × Value)} {st : List Value}
theorem li_iconst (C : lwK p s m b c D) {n : Int} {v : Int32} (d : decode code pc = .ok (.iconst n, 1)) (hv : Int32.ofInt n = v) (kk : lwB p l e s m b below meth c P cells slots (pc + 1) lv (.int v :: st)) : lwB p l e s m b below meth c P cells slots pc lv st := fun H locs ls hP hS hl => lv_iconst C.1 C.2.1 d hv (kk H locs ls hP hS hl)
theorem li_bipush (C : lwK p s m b c D) {n : Int} {v : Int32} (d : decode code pc = .ok (.bipush n, 2)) (hv : (Int8.ofInt n).toInt32 = v) (kk : lwB p l e s m b below meth c P cells slots (pc + 2) lv (.int v :: st)) : lwB p l e s m b below meth c P cells slots pc lv st := fun H locs ls hP hS hl => lv_bipush C.1 C.2.1 d hv (kk H locs ls hP hS hl)
theorem li_lconst (C : lwK p s m b c D) {n : Fin 2} {v : Int64} (d : decode code pc = .ok (.lconst n, 1)) (hv : Int64.ofNat (n : Nat) = v) (kk : lwB p l e s m b below meth c P cells slots (pc + 1) lv (.long v :: st)) : lwB p l e s m b below meth c P cells slots pc lv st := fun H locs ls hP hS hl => lv_lconst C.1 C.2.1 d hv (kk H locs ls hP hS hl)
theorem li_ldc2 (C : lwK p s m b c D) {index : Nat} {v : Int64} (hc : Cond.constantLong "BoardScriptLaw" index v ∈ zzW) (d : decode code pc = .ok (.ldc2_w index, 3)) (kk : lwB p l e s m b below meth c P cells slots (pc + 3) lv (.long v :: st)) : lwB p l e s m b below meth c P cells slots pc lv st := fun H locs ls hP hS hl => lv_ldc2 C.1 C.2.1 C.2.2.2.1 (C.2.2.2.2.1 _ hc) d (kk H locs ls hP hS hl)
theorem li_aload_n (C : lwK p s m b c D) {k : Fin 4} {i : Nat} {x : Nat} (d : decode code pc = .ok (.aload_n k, 1)) (hi : (k : Nat) = i) (j : Nat) (hj : lv[j]? = some (i, .ref x)) (kk : lwB p l e s m b below meth c P cells slots (pc + 1) lv (.ref x :: st)) : lwB p l e s m b below meth c P cells slots pc lv st := fun H locs ls hP hS hl => lv_aload_n C.1 C.2.1 d hi (lv_at hl j hj) (kk H locs ls hP hS hl)
theorem li_iload (C : lwK p s m b c D) {i : Nat} {x : Int32} (d : decode code pc = .ok (.iload i, 2)) (j : Nat) (hj : lv[j]? = some (i, .int x)) (kk : lwB p l e s m b below meth c P cells slots (pc + 2) lv (.int x :: st)) : lwB p l e s m b below meth c P cells slots pc lv st := fun H locs ls hP hS hl => lv_iload C.1 C.2.1 d (lv_at hl j hj) (kk H locs ls hP hS hl)
theorem li_lload (C : lwK p s m b c D) {i : Nat} {x : Int64} (d : decode code pc = .ok (.lload i, 2)) (j : Nat) (hj : lv[j]? = some (i, .long x)) (kk : lwB p l e s m b below meth c P cells slots (pc + 2) lv (.long x :: st)) : lwB p l e s m b below meth c P cells slots pc lv st := fun H locs ls hP hS hl => lv_lload C.1 C.2.1 d (lv_at hl j hj) (kk H locs ls hP hS hl)
theorem li_istore (C : lwK p s m b c D) {i : Nat} {x : Int32} (d : decode code pc = .ok (.istore i, 2)) (hn : i < 8) (hv : (i, Value.int x) :: lv.filter (fun q => !(q.1 == i) && !(q.1 + 1 == i && q.2.category == 2)) = lv') (kk : lwB p l e s m b below meth c P cells slots (pc + 2) lv' st) : lwB p l e s m b below meth c P cells slots pc lv (.int x :: st) := fun H locs ls hP hS hl => lv_istore C.1 C.2.1 d hl hn hv (fun ls hl => kk H locs ls hP hS hl)
theorem li_lstore (C : lwK p s m b c D) {i : Nat} {x : Int64} (d : decode code pc = .ok (.lstore i, 2)) (hn : i + 1 < 8) (hv : (i, Value.long x) :: lv.filter (fun q => !(q.1 == i) && (!(q.1 == i + 1) && !(q.1 + 1 == i && q.2.category == 2))) = lv') (kk : lwB p l e s m b below meth c P cells slots (pc + 2) lv' st) : lwB p l e s m b below meth c P cells slots pc lv (.long x :: st) := fun H locs ls hP hS hl => lv_lstore C.1 C.2.1 d hl hn hv (fun ls hl => kk H locs ls hP hS hl)
theorem li_iinc (C : lwK p s m b c D) {i k : Nat} {n : Int} {x v : Int32} (d : decode code pc = .ok (.iinc i n, 3)) (hk : lv[k]? = some (i, .int x)) (hx : x + Int32.ofInt n = v) (hn : i < 8) (hv : (i, Value.int v) :: lv.filter (fun q => !(q.1 == i) && !(q.1 + 1 == i && q.2.category == 2)) = lv') (kk : lwB p l e s m b below meth c P cells slots (pc + 3) lv' st) : lwB p l e s m b below meth c P cells slots pc lv st := fun H locs ls hP hS hl => lv_iinc C.1 C.2.1 d hl hk hx hn hv (fun ls hl => kk H locs ls hP hS hl)
theorem li_iadd (C : lwK p s m b c D) {x y z : Int32} (d : decode code pc = .ok (.iadd, 1)) (hz : x + y = z) (kk : lwB p l e s m b below meth c P cells slots (pc + 1) lv (.int z :: st)) : lwB p l e s m b below meth c P cells slots pc lv (.int y :: .int x :: st) := fun H locs ls hP hS hl => by subst hz; exact lv_iadd C.1 C.2.1 d (kk H locs ls hP hS hl)
theorem li_isub (C : lwK p s m b c D) {x y z : Int32} (d : decode code pc = .ok (.isub, 1)) (hz : x - y = z) (kk : lwB p l e s m b below meth c P cells slots (pc + 1) lv (.int z :: st)) : lwB p l e s m b below meth c P cells slots pc lv (.int y :: .int x :: st) := fun H locs ls hP hS hl => by subst hz; exact lv_isub C.1 C.2.1 d (kk H locs ls hP hS hl)
theorem li_iand (C : lwK p s m b c D) {x y z : Int32} (d : decode code pc = .ok (.iand, 1)) (hz : x &&& y = z) (kk : lwB p l e s m b below meth c P cells slots (pc + 1) lv (.int z :: st)) : lwB p l e s m b below meth c P cells slots pc lv (.int y :: .int x :: st) := fun H locs ls hP hS hl => by subst hz; exact lv_iand C.1 C.2.1 d (kk H locs ls hP hS hl)
theorem li_land (C : lwK p s m b c D) {x y z : Int64} (d : decode code pc = .ok (.land, 1)) (hz : x &&& y = z) (kk : lwB p l e s m b below meth c P cells slots (pc + 1) lv (.long z :: st)) : lwB p l e s m b below meth c P cells slots pc lv (.long y :: .long x :: st) := fun H locs ls hP hS hl => by subst hz; exact lv_land C.1 C.2.1 d (kk H locs ls hP hS hl)
theorem li_lor (C : lwK p s m b c D) {x y z : Int64} (d : decode code pc = .ok (.lor, 1)) (hz : x ||| y = z) (kk : lwB p l e s m b below meth c P cells slots (pc + 1) lv (.long z :: st)) : lwB p l e s m b below meth c P cells slots pc lv (.long y :: .long x :: st) := fun H locs ls hP hS hl => by subst hz; exact lv_lor C.1 C.2.1 d (kk H locs ls hP hS hl)
theorem li_lshl (C : lwK p s m b c D) {x v : Int64} {y : Int32} (d : decode code pc = .ok (.lshl, 1)) (hv : x <<< (y.toInt64 &&& 63) = v) (kk : lwB p l e s m b below meth c P cells slots (pc + 1) lv (.long v :: st)) : lwB p l e s m b below meth c P cells slots pc lv (.int y :: .long x :: st) := fun H locs ls hP hS hl => lv_lshl C.1 C.2.1 d hv (kk H locs ls hP hS hl)
theorem li_i2l (C : lwK p s m b c D) {x : Int32} {v : Int64} (d : decode code pc = .ok (.i2l, 1)) (hv : x.toInt64 = v) (kk : lwB p l e s m b below meth c P cells slots (pc + 1) lv (.long v :: st)) : lwB p l e s m b below meth c P cells slots pc lv (.int x :: st) := fun H locs ls hP hS hl => lv_i2l C.1 C.2.1 d hv (kk H locs ls hP hS hl)
theorem li_lcmp (C : lwK p s m b c D) {x y : Int64} {v : Int32} (d : decode code pc = .ok (.lcmp, 1)) (hv : lg_cmp x y = v) (kk : lwB p l e s m b below meth c P cells slots (pc + 1) lv (.int v :: st)) : lwB p l e s m b below meth c P cells slots pc lv (.long y :: .long x :: st) := fun H locs ls hP hS hl => by subst hv; exact W.lcmp C.1 C.2.1 d (kk H locs ls hP hS hl)
theorem li_goto (C : lwK p s m b c D) {off : Int} {tgt : Nat} (d : decode code pc = .ok (.goto off, 3)) (ht : (pc : Int) + off = (tgt : Int)) (kk : lwB p l e s m b below meth c P cells slots tgt lv st) : lwB p l e s m b below meth c P cells slots pc lv st := fun H locs ls hP hS hl => lv_goto C.1 C.2.1 d ht (kk H locs ls hP hS hl)
theorem li_icmpeqT (C : lwK p s m b c D) {x y : Int32} {off : Int} {tgt : Nat} (d : decode code pc = .ok (.if_icmp .eq off, 3)) (ht : (pc : Int) + off = (tgt : Int)) (hc : x = y) (kk : lwB p l e s m b below meth c P cells slots tgt lv st) : lwB p l e s m b below meth c P cells slots pc lv (.int y :: .int x :: st) := fun H locs ls hP hS hl => lv_icmp_eq C.1 C.2.1 d ht (fun _ => kk H locs ls hP hS hl) (fun h => absurd hc h)
theorem li_ifneT (C : lwK p s m b c D) {x : Int32} {off : Int} {tgt : Nat} (d : decode code pc = .ok (.ifCond .ne off, 3)) (ht : (pc : Int) + off = (tgt : Int)) (hc : ¬ x = 0) (kk : lwB p l e s m b below meth c P cells slots tgt lv st) : lwB p l e s m b below meth c P cells slots pc lv (.int x :: st) := fun H locs ls hP hS hl => lv_if_ne C.1 C.2.1 d ht (fun _ => kk H locs ls hP hS hl) (fun h => absurd h hc)
theorem li_ifneF (C : lwK p s m b c D) {x : Int32} {off : Int} {tgt : Nat} (d : decode code pc = .ok (.ifCond .ne off, 3)) (ht : (pc : Int) + off = (tgt : Int)) (hc : x = 0) (kk : lwB p l e s m b below meth c P cells slots (pc + 3) lv st) : lwB p l e s m b below meth c P cells slots pc lv (.int x :: st) := fun H locs ls hP hS hl => lv_if_ne C.1 C.2.1 d ht (fun h => absurd hc h) (fun _ => kk H locs ls hP hS hl)
theorem li_ifeqT (C : lwK p s m b c D) {x : Int32} {off : Int} {tgt : Nat} (d : decode code pc = .ok (.ifCond .eq off, 3)) (ht : (pc : Int) + off = (tgt : Int)) (hc : x = 0) (kk : lwB p l e s m b below meth c P cells slots tgt lv st) : lwB p l e s m b below meth c P cells slots pc lv (.int x :: st) := fun H locs ls hP hS hl => lv_if_eq C.1 C.2.1 d ht (fun _ => kk H locs ls hP hS hl) (fun h => absurd hc h)
theorem li_ifeqF (C : lwK p s m b c D) {x : Int32} {off : Int} {tgt : Nat} (d : decode code pc = .ok (.ifCond .eq off, 3)) (ht : (pc : Int) + off = (tgt : Int)) (hc : ¬ x = 0) (kk : lwB p l e s m b below meth c P cells slots (pc + 3) lv st) : lwB p l e s m b below meth c P cells slots pc lv (.int x :: st) := fun H locs ls hP hS hl => lv_if_eq C.1 C.2.1 d ht (fun h => absurd h hc) (fun _ => kk H locs ls hP hS hl)
theorem li_icmpgtT (C : lwK p s m b c D) {x y : Int32} {off : Int} {tgt : Nat} (d : decode code pc = .ok (.if_icmp .gt off, 3)) (ht : (pc : Int) + off = (tgt : Int)) (hc : y < x) (kk : lwB p l e s m b below meth c P cells slots tgt lv st) : lwB p l e s m b below meth c P cells slots pc lv (.int y :: .int x :: st) := fun H locs ls hP hS hl => lv_icmp_gt C.1 C.2.1 d ht (fun _ => kk H locs ls hP hS hl) (fun h => absurd hc h)
theorem li_icmpgtF (C : lwK p s m b c D) {x y : Int32} {off : Int} {tgt : Nat} (d : decode code pc = .ok (.if_icmp .gt off, 3)) (ht : (pc : Int) + off = (tgt : Int)) (hc : ¬ y < x) (kk : lwB p l e s m b below meth c P cells slots (pc + 3) lv st) : lwB p l e s m b below meth c P cells slots pc lv (.int y :: .int x :: st) := fun H locs ls hP hS hl => lv_icmp_gt C.1 C.2.1 d ht (fun h => absurd h hc) (fun _ => kk H locs ls hP hS hl)
theorem li_tIn (C : lwK p s m b c D) {dflt lo hi : Int} {offs : Array Int} {len : Nat} {x : Int32} (d : decode code pc = .ok (.tableswitch dflt lo hi offs, len)) (off : Int) (tgt : Nat) (h1 : ¬ x.toInt < lo) (h2 : ¬ hi < x.toInt) (ho : offs[(x.toInt - lo).toNat]? = some off) (ht : (pc : Int) + off = (tgt : Int)) (kk : lwB p l e s m b below meth c P cells slots tgt lv st) : lwB p l e s m b below meth c P cells slots pc lv (.int x :: st) := fun H locs ls hP hS hl => lv_tableIn C.1 C.2.1 d h1 h2 ho ht (kk H locs ls hP hS hl)
theorem li_tOut (C : lwK p s m b c D) {dflt lo hi : Int} {offs : Array Int} {len : Nat} {x : Int32} (d : decode code pc = .ok (.tableswitch dflt lo hi offs, len)) (tgt : Nat) (h : x.toInt < lo ∨ hi < x.toInt) (ht : (pc : Int) + dflt = (tgt : Int)) (kk : lwB p l e s m b below meth c P cells slots tgt lv st) : lwB p l e s m b below meth c P cells slots pc lv (.int x :: st) := fun H locs ls hP hS hl => lv_tableOut C.1 C.2.1 d h ht (kk H locs ls hP hS hl)
theorem li_sld (C : lwK p s m b c D) {L : Nat} {xs : Nat → Int32} (hX : va_X b L xs s s.heap) (hbl : b < s.heap.size) {i : Int32} (hin : vp_in i L) {v : Int32} (hv : xs i.toNatClampNeg = v) (d : decode code pc = .ok (.iaload, 1)) (kk : lwB p l e s m b below meth c P cells slots (pc + 1) lv (.int v :: st)) : lwB p l e s m b below meth c P cells slots pc lv (.int i :: .ref b :: st) := fun H locs ls hP hS hl => by subst hv; exact va_sld C.1 C.2.1 hX hbl (Nat.not_le.mpr hbl) hS hin d (kk H locs ls hP hS hl)
theorem li_slen (C : lwK p s m b c D) {L : Nat} {xs : Nat → Int32} (hX : va_X b L xs s s.heap) (hbl : b < s.heap.size) (d : decode code pc = .ok (.arraylength, 1)) (kk : lwB p l e s m b below meth c P cells slots (pc + 1) lv (.int (Int32.ofNat L) :: st)) : lwB p l e s m b below meth c P cells slots pc lv (.ref b :: st) := fun H locs ls hP hS hl => va_slen C.1 C.2.1 hX hbl (Nat.not_le.mpr hbl) hS d (kk H locs ls hP hS hl)
theorem li_eq {st' : List Value} {cells' slots' : Nat} (h1 : lv = lv') (h2 : st = st') (h3 : cells = cells') (h4 : slots = slots') (k : lwB p l e s m b below meth c P cells' slots' pc lv' st') : lwB p l e s m b below meth c P cells slots pc lv st := by subst h1; subst h2; subst h3; subst h4; exact k
theorem li_sub (ks : List Nat) (h : lv_pick lv ks = lv') (k : lwB p l e s m b below meth c P cells slots pc lv' st) : lwB p l e s m b below meth c P cells slots pc lv st := fun H locs ls hP hS hl => k H locs ls hP hS (lv_sub hl ks h)
/-- script[i + k] -/
theorem li_arg (C : lwK p s m b c D) {L : Nat} {xs : Nat → Int32} (hX : va_X b L xs s s.heap) (hbl : b < s.heap.size) (hL : L ≤ 2560) {n k : Nat} {w : Int} (hw : Int32.ofInt w = nI k) (hnk : n + k < L) (j0 j4 : Nat) (h0 : lv[j0]? = some (0, .ref b)) (h4 : lv[j4]? = some (4, .int (nI n))) (d0 : decode code pc = .ok (.aload_n 0, 1)) (d1 : decode code (pc + 1) = .ok (.iload 4, 2)) (d3 : decode code (pc + 3) = .ok (.iconst w, 1)) (d4 : decode code (pc + 4) = .ok (.iadd, 1)) (d5 : decode code (pc + 5) = .ok (.iaload, 1)) (kk : lwB p l e s m b below meth c P cells slots (pc + 6) lv (.int (xs (n + k)) :: st)) : lwB p l e s m b below meth c P cells slots pc lv st := by
  refine li_aload_n C d0 rfl j0 h0 ?_
  refine li_iload C d1 j4 h4 ?_
  refine li_iconst C d3 hw ?_
  refine li_iadd C d4 (nI_add n k) ?_
  exact li_sld C hX hbl (nI_in (N := L) hnk (by omega)) (by rw [nI_clamp (by omega)]) d5 kk
/-- the long of script[i + k] and script[i + k + 1] -/
def lwLong (x y : Int32) : Int64 := (x.toInt64 <<< ((32 : Int32).toInt64 &&& 63)) ||| (y.toInt64 &&& 4294967295)
/-- out[0] -/
theorem li_out (C : lwK p s m b c D) {bs : Nat} {Sc Sm : zzS} {Mc Mm : zzM} (ho : 62 < Sc.2.1) (hk : zzk Sc 62 = 2) (hn : zzn Sc 62 = 1) {v : Int64} (hv : zzL Mc 62 0 = v) (d : decode code pc = .ok (.laload, 1)) (kk : lwB p l e s m b below meth c (lwP D bs Sc Mc Sm Mm) cells slots (pc + 1) lv (.long v :: st)) : lwB p l e s m b below meth c (lwP D bs Sc Mc Sm Mm) cells slots pc lv (.int 0 :: .ref (bs + 62) :: st) := by
  intro H locs ls hP hS hl
  obtain ⟨-, hcell⟩ := hP.1.arr ho hk (by decide) (by decide)
  subst hv
  have hi : ¬ ((0 : Int32) < 0 ∨ zzn Sc 62 ≤ (0 : Int32).toNatClampNeg) := by rw [hn]; decide
  exact W.lald (v := .long (zzL Mc 62 0)) C.1 C.2.1 hcell ((C.2.2.2.2.2.2 2 (by decide) (by decide)).1 _ _) (fun q => by cases q) (by rw [arrV_size]; exact hi) (by rw [arrV_read _ _ (by rw [hn]; decide), zzel_2]; rfl) rfl rfl d (kk H locs ls hP hS hl)
end LW
section LC
variable {p : Program} {l : Launch} {e : Env} {s : State} {m : MethodId} {b : Nat} {below : List Frame} {meth : Method} {c : Code} {D : zzD} {cells slots pc : Nat} {lv : List (Nat × Value)} {st : List Value} {bs : Nat} {Sc Sm S2 : zzS} {Mc Mm M2 : zzM}
/-- behind a call that works on the class's world -/
theorem lw_after1 {mc ms : Nat} {res : Option Value} {a : Array Value} {st0 : List Value} {H : Heap} {locs : List Loc} {ls : Array Slot} (hbs : bs = s.heap.size) (hr : va_Run p l e room_1 s m #[Value.ref b] below meth c H locs cells slots mc ms (F0 m pc ls st0) st (zzQc D bs (lwAc bs) S2 M2 (bs + S2.2.1) res a) (lwAc bs)) (hP : lwP D bs Sc Mc Sm Mm H) (hS : va_S (lwA s) s.heap H locs) (hl : lv_has ls 8 lv)
    (kk : lwB p l e s m b below meth c (lwP D bs S2 M2 Sm Mm) (cells + mc) (slots + ms) (pc + 3) lv (res.toList ++ st)) : W p l e room_1 s m #[Value.ref b] below meth c H locs cells slots (lw_Z below #[Value.ref b] s) (F0 m pc ls st0) := by
  intro T hT X
  obtain ⟨v, st₀, t, T', L, h0, X', hL, e1, e2, ⟨hv, hrep, hz', hk⟩, stp⟩ := hr T hT X
  cases hv
  rw [h0] at hz' hk
  obtain ⟨t2, a1, b1⟩ := kk T'.heap (locs ++ L) ls ⟨by rw [e1]; exact hrep, by
      rw [e1]
      exact lw_keep hP.2 hrep.1 (fun q hq hA => hk q hq (fun h => h.2 hA))⟩ ⟨Nat.le_trans hS.1 (by rw [e1]; exact hz'), fun q h1 h2 => by
      rw [e1, hk q (Nat.lt_of_lt_of_le h1 hS.1) (fun h => h2 (by have := h.1; show s.heap.size ≤ q; omega))]; exact hS.2.1 q h1 h2, fun q hq => by
      rcases List.mem_append.mp hq with h | h
      · exact hS.2.2 q h
      · have := (hL q h).1; show s.heap.size ≤ q.base; omega⟩ hl T' rfl X'
  exact ⟨t2, stp t2 a1, b1⟩
/-- behind a call that works on the reference's world -/
theorem lw_after2 {res : Option Value} {a : Array Value} {st0 : List Value} {H : Heap} {locs : List Loc} {ls : Array Slot} (hbs : bs = s.heap.size) (hr : va_Run p l e room_1 s m #[Value.ref b] below meth c H locs cells slots 0 0 (F0 m pc ls st0) st (zzQc D bs (lwAm bs) Sm M2 (bs + Sc.2.1) res a) (lwAm bs)) (hP : lwP D bs Sc Mc Sm Mm H) (hS : va_S (lwA s) s.heap H locs) (hl : lv_has ls 8 lv)
    (kk : lwB p l e s m b below meth c (lwP D bs Sc Mc Sm M2) cells slots (pc + 3) lv (res.toList ++ st)) : W p l e room_1 s m #[Value.ref b] below meth c H locs cells slots (lw_Z below #[Value.ref b] s) (F0 m pc ls st0) := by
  intro T hT X
  obtain ⟨v, st₀, t, T', L, h0, X', hL, e1, e2, ⟨hv, hrep, hz', hk⟩, stp⟩ := hr T hT X
  cases hv
  rw [h0] at hz' hk
  obtain ⟨t2, a1, b1⟩ := kk T'.heap (locs ++ L) ls ⟨by
      rw [e1]
      exact lw_keep hP.1 hrep.1 (fun q hq hA => hk q hq (fun h => hA.2 h)), by rw [e1]; exact hrep⟩ ⟨Nat.le_trans hS.1 (by rw [e1]; exact hz'), fun q h1 h2 => by
      rw [e1, hk q (Nat.lt_of_lt_of_le h1 hS.1) (fun h => h2 (by have := h.1; show s.heap.size ≤ q; omega))]; exact hS.2.1 q h1 h2, fun q hq => by
      rcases List.mem_append.mp hq with h | h
      · exact hS.2.2 q h
      · have := (hL q h).1; show s.heap.size ≤ q.base; omega⟩ hl T' rfl X'
  exact ⟨t2, stp t2 a1, b1⟩
/-- a call on the class's object that makes nothing -/
theorem li_cv1 (C : lwK p s m b c D) (hbs : bs = s.heap.size) {y : MethodName} {bytes : ByteArray} {maxL index n fr lo : Nat} {res : Option Value} {ret : Option FieldType} {As stk : List Value} {ci N r : Nat} {T : u_T} (hM : Met l y (Cond.code y bytes maxL ret :: zzW) { frames := fr, cells := 0, slots := 0, locals := lo } (zzPc D bs (lwAc bs) Sc Mc (bs + Sc.2.1) (Value.ref (bs + r) :: As)) (zzQc D bs (lwAc bs) Sc M2 (bs + Sc.2.1) res) 0 0 (lwAc bs)) (hcode : Cond.code y bytes maxL ret ∈ zzW) (hini : Cond.initialized y.cls ∈ zzW) (hd : y.cls ≠ "java/lang/invoke/MethodHandle" ∧ y.cls ≠ "java/lang/invoke/VarHandle" ∧ (parseMethodDescriptor y.desc).map (fun d => d.parameters.length) = some n) (hRm : fr + 1 ≤ 2048 ∧ 8 + (maxL + 11) + lo ≤ 84000) (hn : As.length = n) (hw : (st.map fun v => v.category).sum ≤ 8) (hf : cells ≤ 601024 ∧ slots ≤ 7293034) (hlink : Cond.methodLink "BoardScriptLaw" index y ∈ zzW) (hinst : Cond.instanceMethod y ∈ zzW) (hsel : Cond.selects y.cls y y ∈ zzW) (hcl : vwCl[ci]? = some (y.cls, T, N)) (ha : r < Sc.2.1) (hk : zzk Sc r = 10 + ci) (hstk : stk = As.reverse ++ .ref (bs + r) :: st) (d : decode code pc = .ok (.invokevirtual index, 3))
    (kk : lwB p l e s m b below meth c (lwP D bs Sc M2 Sm Mm) cells slots (pc + 3) lv (res.toList ++ st)) : lwB p l e s m b below meth c (lwP D bs Sc Mc Sm Mm) cells slots pc lv stk := by
  subst hstk
  intro H locs ls hP hS hl
  obtain ⟨-, cell, g1, g2, g3, -⟩ := hP.1.obj ha hk hcl
  have hfc := (C.2.2.2.2.2.1 ci _ hcl).2.1
  refine lw_after1 (mc := 0) (ms := 0) hbs (va_runV (n := n) (bytes := bytes) (maxL := maxL) (ret := ret) (C := y.cls) (As := As) (rest := st) (nL := 8) (Ts := zzW) ⟨C.1, C.2.1, C.2.2.1, C.2.2.2.1, C.2.2.2.2.1⟩ hM ⟨callB_of (ws' := zzW) n C.2.2.2.2.1 (zz_good hcode) rfl rfl rfl (C.2.2.2.2.1 _ hini) (C.2.2.2.2.1 _ hlink) hd hRm, C.2.2.2.2.1 _ hinst, C.2.2.2.2.1 _ hsel⟩ ⟨zzPc.blind, ⟨cell, g1, by rw [g3]; rfl, by rw [g2]; exact hfc⟩, fun U hU hW => ⟨rfl, by rw [hU]; exact hP.1, C.2.2.2.2.2.moved hW.alike⟩⟩ rfl hn hl.1 rfl (lv_room hw) d hf) hP hS hl kk
/-- a call on the reference's object -/
theorem li_cv2 (C : lwK p s m b c D) (hbs : bs = s.heap.size) {y : MethodName} {bytes : ByteArray} {maxL index n fr lo : Nat} {res : Option Value} {ret : Option FieldType} {As stk : List Value} {ci N r : Nat} {T : u_T} (hM : Met l y (Cond.code y bytes maxL ret :: zzW) { frames := fr, cells := 0, slots := 0, locals := lo } (zzPc D bs (lwAm bs) Sm Mm (bs + Sc.2.1) (Value.ref (bs + r) :: As)) (zzQc D bs (lwAm bs) Sm M2 (bs + Sc.2.1) res) 0 0 (lwAm bs)) (hcode : Cond.code y bytes maxL ret ∈ zzW) (hini : Cond.initialized y.cls ∈ zzW) (hd : y.cls ≠ "java/lang/invoke/MethodHandle" ∧ y.cls ≠ "java/lang/invoke/VarHandle" ∧ (parseMethodDescriptor y.desc).map (fun d => d.parameters.length) = some n) (hRm : fr + 1 ≤ 2048 ∧ 8 + (maxL + 11) + lo ≤ 84000) (hn : As.length = n) (hw : (st.map fun v => v.category).sum ≤ 8) (hf : cells ≤ 601024 ∧ slots ≤ 7293034) (hlink : Cond.methodLink "BoardScriptLaw" index y ∈ zzW) (hinst : Cond.instanceMethod y ∈ zzW) (hsel : Cond.selects y.cls y y ∈ zzW) (hcl : vwCl[ci]? = some (y.cls, T, N)) (ha : r < Sm.2.1) (hk : zzk Sm r = 10 + ci) (hstk : stk = As.reverse ++ .ref (bs + r) :: st) (d : decode code pc = .ok (.invokevirtual index, 3))
    (kk : lwB p l e s m b below meth c (lwP D bs Sc Mc Sm M2) cells slots (pc + 3) lv (res.toList ++ st)) : lwB p l e s m b below meth c (lwP D bs Sc Mc Sm Mm) cells slots pc lv stk := by
  subst hstk
  intro H locs ls hP hS hl
  obtain ⟨-, cell, g1, g2, g3, -⟩ := hP.2.obj ha hk hcl
  have hfc := (C.2.2.2.2.2.1 ci _ hcl).2.1
  refine lw_after2 hbs (va_runV (n := n) (bytes := bytes) (maxL := maxL) (ret := ret) (C := y.cls) (As := As) (rest := st) (nL := 8) (Ts := zzW) ⟨C.1, C.2.1, C.2.2.1, C.2.2.2.1, C.2.2.2.2.1⟩ hM ⟨callB_of (ws' := zzW) n C.2.2.2.2.1 (zz_good hcode) rfl rfl rfl (C.2.2.2.2.1 _ hini) (C.2.2.2.2.1 _ hlink) hd hRm, C.2.2.2.2.1 _ hinst, C.2.2.2.2.1 _ hsel⟩ ⟨zzPc.blind, ⟨cell, g1, by rw [g3]; rfl, by rw [g2]; exact hfc⟩, fun U hU hW => ⟨rfl, by rw [hU]; exact hP.2, C.2.2.2.2.2.moved hW.alike⟩⟩ rfl hn hl.1 rfl (lv_room hw) d hf) hP hS hl kk
/-- a call on the class's object that makes cells -/
theorem li_cv1A (C : lwK p s m b c D) (hbs : bs = s.heap.size) {X : State → Prop} (hXs : zzStab bs X) (hX : X s) {y : MethodName} {bytes : ByteArray} {maxL index n fr lo mc ms : Nat} {res : Option Value} {ret : Option FieldType} {As stk : List Value} {ci N r : Nat} {T : u_T} (hM : Met l y (Cond.code y bytes maxL ret :: zzW) { frames := fr, cells := mc, slots := ms, locals := lo } (zzPcX D bs (lwAc bs) X Sc Mc (Value.ref (bs + r) :: As)) (zzQc D bs (lwAc bs) S2 M2 (bs + S2.2.1) res) mc ms (lwAc bs)) (hcode : Cond.code y bytes maxL ret ∈ zzW) (hini : Cond.initialized y.cls ∈ zzW) (hd : y.cls ≠ "java/lang/invoke/MethodHandle" ∧ y.cls ≠ "java/lang/invoke/VarHandle" ∧ (parseMethodDescriptor y.desc).map (fun d => d.parameters.length) = some n) (hRm : fr + 1 ≤ 2048 ∧ 8 + (maxL + 11) + lo ≤ 84000) (hn : As.length = n) (hw : (st.map fun v => v.category).sum ≤ 8) (hf : cells + mc ≤ 601024 ∧ slots + ms ≤ 7293034) (hlink : Cond.methodLink "BoardScriptLaw" index y ∈ zzW) (hinst : Cond.instanceMethod y ∈ zzW) (hsel : Cond.selects y.cls y y ∈ zzW) (hcl : vwCl[ci]? = some (y.cls, T, N)) (ha : r < Sc.2.1) (hk : zzk Sc r = 10 + ci) (hstk : stk = As.reverse ++ .ref (bs + r) :: st) (d : decode code pc = .ok (.invokevirtual index, 3))
    (kk : lwB p l e s m b below meth c (lwP D bs S2 M2 Sm Mm) (cells + mc) (slots + ms) (pc + 3) lv (res.toList ++ st)) : lwB p l e s m b below meth c (lwP D bs Sc Mc Sm Mm) cells slots pc lv stk := by
  subst hstk
  intro H locs ls hP hS hl
  obtain ⟨-, cell, g1, g2, g3, -⟩ := hP.1.obj ha hk hcl
  have hfc := (C.2.2.2.2.2.1 ci _ hcl).2.1
  refine lw_after1 hbs (va_runV (n := n) (bytes := bytes) (maxL := maxL) (ret := ret) (C := y.cls) (As := As) (rest := st) (nL := 8) (Ts := zzW) ⟨C.1, C.2.1, C.2.2.1, C.2.2.2.1, C.2.2.2.2.1⟩ hM ⟨callB_of (ws' := zzW) n C.2.2.2.2.1 (zz_good hcode) rfl rfl rfl (C.2.2.2.2.1 _ hini) (C.2.2.2.2.1 _ hlink) hd hRm, C.2.2.2.2.1 _ hinst, C.2.2.2.2.1 _ hsel⟩ ⟨zzPcX.blind hXs, ⟨cell, g1, by rw [g3]; rfl, by rw [g2]; exact hfc⟩, fun U hU hW => ⟨rfl, by rw [hU]; exact hP.1, C.2.2.2.2.2.moved hW.alike, hXs.1 s U hX hW (fun q hq => by rw [hU]; exact hS.2.1 q (by omega) (fun h => by have h9 : s.heap.size ≤ q := h; omega))⟩⟩ rfl hn hl.1 rfl (lv_room hw) d hf) hP hS hl kk
/-- a static call of a method with handlers -/
theorem lw_runSW {y : MethodName} {bytes : ByteArray} {maxL index n fr lo mc ms : Nat} {ret : Option FieldType} {hh : List (Nat × Nat × Nat × Nat)} {Pc : Array Value → State → Prop} {Qc : Array Value → State → Outcome → State → Prop} {free : Addr → Prop} {As : List Value} {H : Heap} {locs : List Loc} {ls : Array Slot} (C : lwK p s m b c D) (hM : Met l y (Cond.codeWith y bytes maxL ret hh :: zzW) { frames := fr, cells := mc, slots := ms, locals := lo } Pc Qc mc ms free) (hcode : Cond.codeWith y bytes maxL ret hh ∈ zzW) (hini : Cond.initialized y.cls ∈ zzW) (hd : y.cls ≠ "java/lang/invoke/MethodHandle" ∧ y.cls ≠ "java/lang/invoke/VarHandle" ∧ (parseMethodDescriptor y.desc).map (fun d => d.parameters.length) = some n) (hRm : fr + 1 ≤ 2048 ∧ 8 + (maxL + 11) + lo ≤ 84000) (hlink : Cond.methodLink "BoardScriptLaw" index y ∈ zzW) (hst : Cond.static y ∈ zzW) (hblind : FrameBlind Pc) (hpre : ∀ U : State, U.heap = H → s.WarmedH U.vm → Pc As.toArray U) (hn : As.length = n) (hl : lv_has ls 8 lv) (hw : (st.map fun v => v.category).sum ≤ 8) (d : decode code pc = .ok (.invokestatic index, 3)) (hf : cells + mc ≤ 601024 ∧ slots + ms ≤ 7293034) :
    va_Run p l e room_1 s m #[Value.ref b] below meth c H locs cells slots mc ms (F0 m pc ls (As.reverse ++ st)) st (Qc As.toArray) free := by
  have W5 := C.2.2.2.2.1
  have hG : ∀ w ∈ Cond.codeWith y bytes maxL ret hh :: zzW, ∀ (a' : Array Value) (U : State), s.WarmedH U.vm → w.before a' U = true := fun w hw a' U hW => by
    have hz : w ∈ zzW := by
      rcases List.mem_cons.mp hw with rfl | h
      · exact hcode
      · exact h
    exact word_at hW (zzW_good w hz) (W5 w hz)
  have hK : Back l room_1 p e below s #[Value.ref b] y 3 8 (PreOf room_1 mc ms Pc) (PostOf Qc mc ms free) := va_backW (hh := hh) (bytes := bytes) (maxL := maxL) (ret := ret) hM hblind rfl rfl hRm.1 hRm.2 hG List.mem_cons_self (fun a' U hW => word_at hW (zzW_good _ hini) (W5 _ hini))
  intro T hT X
  obtain ⟨mk, methM, cM, hnamed, hmethM, -, -, -, -, -, -, hsigM⟩ := Cond.codeWith_spec (W5 _ hcode)
  have hstatic : methM.isStatic = true := Cond.static_spec hnamed hmethM (W5 _ hst)
  obtain ⟨kP, hkP, -⟩ := className_of_methodNamed hnamed
  have hinitP : kP.init = .initialized := Cond.initialized_spec (findClass_of_methodNamed hnamed) hkP (W5 _ hini)
  have hlen : As.length = methM.sig.parameters.length := by
    have h2 := hd.2.2
    rw [hsigM] at h2
    exact hn.trans (Option.some.inj h2).symm
  obtain ⟨vm₁, X₁, hstep₁⟩ := X.invokestatic C.1 C.2.2.2.1 (W5 _ hlink) hnamed hmethM hstatic hkP hinitP ⟨hd.1, hd.2.1⟩ (g := F0 m pc ls (As.reverse ++ st)) rfl (argsL := As) (rest := st) hlen rfl (by rw [C.2.1]; exact d)
  obtain ⟨v, ⟨U', l2, c2, s2⟩, X', ⟨g', mk', t, L, e1, e2, hq, h1, hL, h2, h3⟩, hsteps⟩ := hK m meth c ⟨T.setVm vm₁, locs, cells, slots⟩ { F0 m pc ls (As.reverse ++ st) with stack := st } (.invokestatic index) mk As.toArray X₁ rfl (hl.1.trans C.2.2.1.symm) (by rw [C.2.1]; exact d) (lv_room hw) (X₁.named hnamed) ⟨hf.1, hf.2, hpre (T.setVm vm₁) hT X₁.warmed⟩
  dsimp only [Pt.U, Pt.locs, Pt.cells, Pt.slots] at X' e1 e2 h1 h2 h3 hsteps
  subst h1; subst h2; subst h3
  exact ⟨v, (T.setVm vm₁).calling g' mk' As.toArray, t, U', L, hT, X', hL, e1, e2, hq, fun target h => hstep₁ _ fun acts => by rw [doInvoke_state]; exact hsteps.trans h⟩
/-- a helper, on either road -/
theorem li_h (C : lwK p s m b c D) (hbs : bs = s.heap.size) {X : State → Prop} (hXs : zzStab bs X) (hX : X s) {y : MethodName} {bytes : ByteArray} {maxL index n fr lo mc ms : Nat} {ret : Option FieldType} {hh : List (Nat × Nat × Nat × Nat)} {r : Int32} {As stk : List Value} (hM : Met l y (Cond.codeWith y bytes maxL ret hh :: zzW) { frames := fr, cells := mc, slots := ms, locals := lo } (zzPcX D bs (lwAc bs) X Sc Mc As) (zzQc D bs (lwAc bs) S2 M2 (bs + S2.2.1) (some (.int r))) mc ms (lwAc bs)) (hcode : Cond.codeWith y bytes maxL ret hh ∈ zzW) (hini : Cond.initialized y.cls ∈ zzW) (hd : y.cls ≠ "java/lang/invoke/MethodHandle" ∧ y.cls ≠ "java/lang/invoke/VarHandle" ∧ (parseMethodDescriptor y.desc).map (fun d => d.parameters.length) = some n) (hRm : fr + 1 ≤ 2048 ∧ 8 + (maxL + 11) + lo ≤ 84000) (hn : As.length = n) (hw : (st.map fun v => v.category).sum ≤ 8) (hf : cells + mc ≤ 601024 ∧ slots + ms ≤ 7293034) (hlink : Cond.methodLink "BoardScriptLaw" index y ∈ zzW) (hst : Cond.static y ∈ zzW) (hstk : stk = As.reverse ++ st) (d : decode code pc = .ok (.invokestatic index, 3))
    (kk : lwB p l e s m b below meth c (lwP D bs S2 M2 Sm Mm) (cells + mc) (slots + ms) (pc + 3) lv (.int r :: st)) : lwB p l e s m b below meth c (lwP D bs Sc Mc Sm Mm) cells slots pc lv stk := by
  subst hstk
  intro H locs ls hP hS hl
  exact lw_after1 (res := some (.int r)) hbs (lw_runSW C hM hcode hini hd hRm hlink hst (zzPcX.blind hXs) (fun U hU hW => ⟨rfl, by rw [hU]; exact hP.1, C.2.2.2.2.2.moved hW.alike, hXs.1 s U hX hW (fun q hq => by rw [hU]; exact hS.2.1 q (by omega) (fun h => by have h9 : s.heap.size ≤ q := h; omega))⟩) hn hl hw d hf) hP hS hl kk
/-- a contract that asks less -/
theorem lw_strong {y : MethodName} {ws : List Cond} {rm : Room} {A : Nat → Prop} {X : State → Prop} {av : List Value} {Qc : Array Value → State → Outcome → State → Prop} {mc ms : Nat} {free : Addr → Prop} (h : Met l y ws rm (zzPc D bs A Sc Mc (bs + Sc.2.1) av) Qc mc ms free) : Met l y ws rm (zzPcX D bs A X Sc Mc av) Qc mc ms free := by
  intro p e ha hc hk s m args below hf happ hP hK
  exact h p e ha hc hk s m args below hf happ ⟨hP.1, hP.2.1, hP.2.2.1⟩ hK
end LC
