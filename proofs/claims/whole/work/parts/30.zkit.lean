/-! the world of a region: cells numbered from 0, cell a lies at bs + a; contents by typed functions (ints, longs, references), shapes (kind, length) by S -/
abbrev zzM : Type := (Nat → Nat → Int32) × (Nat → Nat → Int64) × (Nat → Nat → Option Nat)
abbrev zzS : Type := (Nat → Nat × Nat) × Nat × Nat
abbrev zzD : Type := (Nat → ClassId) × (Nat → Nat → Nat) × (Nat → ClassId)
def zz2 {α : Type} (f : Nat → Nat → α) (a k : Nat) (v : α) : Nat → Nat → α := fun b j => if b = a then (if j = k then v else f b j) else f b j
def zzI (M : zzM) (a k : Nat) : Int32 := M.1 a k
def zzL (M : zzM) (a k : Nat) : Int64 := M.2.1 a k
def zzR (M : zzM) (a k : Nat) : Option Nat := M.2.2 a k
def zzsI (M : zzM) (a k : Nat) (v : Int32) : zzM := (zz2 M.1 a k v, M.2.1, M.2.2)
def zzsL (M : zzM) (a k : Nat) (v : Int64) : zzM := (M.1, zz2 M.2.1 a k v, M.2.2)
def zzsR (M : zzM) (a k : Nat) (v : Option Nat) : zzM := (M.1, M.2.1, zz2 M.2.2 a k v)
def zzk (S : zzS) (a : Nat) : Nat := (S.1 a).1
def zzn (S : zzS) (a : Nat) : Nat := (S.1 a).2
def zzrf (bs : Nat) (r : Option Nat) : Value := va_rf (r.map (fun x => bs + x))
def zzval (ty : FieldType) (bs : Nat) (M : zzM) (a k : Nat) : Value := match ty with
  | .long => .long (zzL M a k)
  | .object _ => zzrf bs (zzR M a k)
  | .array _ => zzrf bs (zzR M a k)
  | _ => .int (zzI M a k)
def zzel (t : Nat) (bs : Nat) (M : zzM) (a j : Nat) : Value := if t = 2 then .long (zzL M a j) else if t = 4 ∨ t = 5 then zzrf bs (zzR M a j) else .int (zzI M a j)
/-- the component type of an array's kind: 1 int[], 2 long[], 3 char[], 4 Statement[], 5 long[][] -/
def zzaty (t : Nat) : FieldType := if t = 2 then .long else if t = 3 then .char else if t = 4 then .object "BoardScript$Statement" else if t = 5 then .array .long else .int
def zzAt (D : zzD) (bs : Nat) (S : zzS) (M : zzM) (H : Heap) (a : Nat) : Prop :=
  (zzk S a < 10 → H[bs + a]? = some (arrV (D.2.2 (zzk S a)) (zzn S a) (zzel (zzk S a) bs M a))) ∧
  (10 ≤ zzk S a → ∃ r : vw_C, vwCl[zzk S a - 10]? = some r ∧ t_OB (bs + a) (D.1 (zzk S a - 10)) r.2.2 (D.2.1 (zzk S a - 10)) H (fun k => zzval (zzty (zzk S a - 10) k) bs M a k))
def zzRep (D : zzD) (bs : Nat) (A : Nat → Prop) (S : zzS) (M : zzM) (hz : Nat) (H : Heap) : Prop :=
  H.size = hz ∧ ∀ a : Nat, a < S.2.1 → zzk S a ≠ 0 → A (bs + a) ∧ zzAt D bs S M H a
def zzK (D : zzD) (U : State) : Prop := (∀ (ci : Nat) (q : vw_C), vwCl[ci]? = some q → u_Kn U q.1 q.2.1 q.2.2 (D.1 ci) (D.2.1 ci)) ∧ ∀ t : Nat, 1 ≤ t → t < 6 → ArrOfT U (D.2.2 t) (zzaty t) ∧ va_RA U (D.2.2 t) (zzaty t)
theorem zzK.moved {D : zzD} {u U : State} (hvm : u.vm.Alike U.vm) (h : zzK D u) : zzK D U := ⟨fun ci q hq => u_Kn_moved hvm (h.1 ci q hq), fun t h1 h2 => ⟨arrOfT_moved hvm (h.2 t h1 h2).1, va_RA.moved hvm (h.2 t h1 h2).2⟩⟩
/-- F's words -/
def zzlet {α : Type} {β : Type} (x : α) (K : α → β) : β := K x
def zzix {β : Type} (S : zzS) (a : Nat) (i : Int32) (x : Option β) : Option β := if i < 0 ∨ zzn S a ≤ i.toNatClampNeg then none else x
def zzref {β : Type} (S : zzS) (t : Nat) (r : Option Nat) (K : Nat → Option β) : Option β := match r with
  | some b => if b < S.2.1 ∧ zzk S b = t then K b else none
  | none => none
def zzopt {β : Type} (S : zzS) (t : Nat) (r : Option Nat) (x : Option β) (K : Nat → Option β) : Option β := match r with
  | some b => if b < S.2.1 ∧ zzk S b = t then K b else none
  | none => x
def zzck {β : Type} (b : Bool) (x : Option β) : Option β := if b = true then x else none
def zzcall {α β : Type} (o : Option (α × zzM)) (K : α → zzM → Option β) : Option β := match o with
  | some q => K q.1 q.2
  | none => none
theorem zzref_e {β : Type} {S : zzS} {t : Nat} {r : Option Nat} {K : Nat → Option β} {o : β} (h : zzref S t r K = some o) : ∃ b, r = some b ∧ b < S.2.1 ∧ zzk S b = t ∧ K b = some o := by
  cases r with
  | none => cases h
  | some b =>
    unfold zzref at h
    dsimp only at h
    by_cases hb : b < S.2.1 ∧ zzk S b = t
    · rw [if_pos hb] at h; exact ⟨b, rfl, hb.1, hb.2, h⟩
    · rw [if_neg hb] at h; cases h
theorem zzopt_e {β : Type} {S : zzS} {t : Nat} {r : Option Nat} {x : Option β} {K : Nat → Option β} {o : β} (h : zzopt S t r x K = some o) : (r = none ∧ x = some o) ∨ ∃ b, r = some b ∧ b < S.2.1 ∧ zzk S b = t ∧ K b = some o := by
  cases r with
  | none => exact Or.inl ⟨rfl, h⟩
  | some b =>
    unfold zzopt at h
    dsimp only at h
    by_cases hb : b < S.2.1 ∧ zzk S b = t
    · rw [if_pos hb] at h; exact Or.inr ⟨b, rfl, hb.1, hb.2, h⟩
    · rw [if_neg hb] at h; cases h
theorem zzix_e {β : Type} {S : zzS} {a : Nat} {i : Int32} {x : Option β} {o : β} (h : zzix S a i x = some o) : ¬ (i < 0 ∨ zzn S a ≤ i.toNatClampNeg) ∧ x = some o := by
  unfold zzix at h
  by_cases hb : i < 0 ∨ zzn S a ≤ i.toNatClampNeg
  · rw [if_pos hb] at h; cases h
  · rw [if_neg hb] at h; exact ⟨hb, h⟩
theorem zzck_e {β : Type} {b : Bool} {x : Option β} {o : β} (h : zzck b x = some o) : b = true ∧ x = some o := by
  unfold zzck at h
  by_cases hb : b = true
  · rw [if_pos hb] at h; exact ⟨hb, h⟩
  · rw [if_neg hb] at h; cases h
theorem zzcall_e {α β : Type} {q : Option (α × zzM)} {K : α → zzM → Option β} {o : β} (h : zzcall q K = some o) : ∃ r M1, q = some (r, M1) ∧ K r M1 = some o := by
  cases q with
  | none => cases h
  | some y => exact ⟨y.1, y.2, rfl, h⟩
theorem zz2_o {α : Type} (f : Nat → Nat → α) {a b : Nat} (k : Nat) (v : α) (h : b ≠ a) : zz2 f a k v b = f b := by
  funext j; simp [zz2, h]
/-- the same rows of a cell -/
abbrev zzsame (M M' : zzM) (a : Nat) : Prop := M'.1 a = M.1 a ∧ M'.2.1 a = M.2.1 a ∧ M'.2.2 a = M.2.2 a
theorem zzel_same {M M' : zzM} {a : Nat} (h : zzsame M M' a) (t bs : Nat) : zzel t bs M' a = zzel t bs M a := by
  funext j
  simp only [zzel, zzI, zzL, zzR, h.1, h.2.1, h.2.2]
theorem zzval_same {M M' : zzM} {a : Nat} (h : zzsame M M' a) (ty : FieldType) (bs k : Nat) : zzval ty bs M' a k = zzval ty bs M a k := by
  cases ty <;> simp only [zzval, zzI, zzL, zzR, h.1, h.2.1, h.2.2]
theorem zzAt.kept {D : zzD} {bs : Nat} {S : zzS} {M M' : zzM} {H H' : Heap} {a : Nat} (h : zzAt D bs S M H a) (h1 : H'[bs + a]? = H[bs + a]?) (hM : zzsame M M' a) : zzAt D bs S M' H' a := by
  refine ⟨fun hk => ?_, fun hk => ?_⟩
  · rw [h1, zzel_same hM]; exact h.1 hk
  · obtain ⟨r, hr, ho⟩ := h.2 hk
    exact ⟨r, hr, (ho.kept h1).to (fun k _ => (zzval_same hM _ _ _).symm)⟩
theorem zzRep.wr {D : zzD} {bs : Nat} {A : Nat → Prop} {S : zzS} {M M' : zzM} {hz : Nat} {H H' : Heap} {a : Nat} (h : zzRep D bs A S M hz H) (hM : ∀ b, b ≠ a → zzsame M M' b) (z : H'.size = H.size) (o : ∀ q : Nat, q ≠ bs + a → H'[q]? = H[q]?) (ha : zzAt D bs S M' H' a) : zzRep D bs A S M' hz H' := by
  refine ⟨by rw [z]; exact h.1, fun b hb hk => ?_⟩
  obtain ⟨h1, h2⟩ := h.2 b hb hk
  refine ⟨h1, ?_⟩
  by_cases hba : b = a
  · subst hba; exact ha
  · exact h2.kept (o _ (by omega)) (hM b hba)
theorem zzsI_o {M : zzM} {a k : Nat} {v : Int32} : ∀ b, b ≠ a → zzsame M (zzsI M a k v) b := fun _ h => ⟨zz2_o _ _ _ h, rfl, rfl⟩
theorem zzsL_o {M : zzM} {a k : Nat} {v : Int64} : ∀ b, b ≠ a → zzsame M (zzsL M a k v) b := fun _ h => ⟨rfl, zz2_o _ _ _ h, rfl⟩
theorem zzsR_o {M : zzM} {a k : Nat} {v : Option Nat} : ∀ b, b ≠ a → zzsame M (zzsR M a k v) b := fun _ h => ⟨rfl, rfl, zz2_o _ _ _ h⟩
theorem zzRep.arr {D : zzD} {bs : Nat} {A : Nat → Prop} {S : zzS} {M : zzM} {hz : Nat} {H : Heap} {a t : Nat} (h : zzRep D bs A S M hz H) (ha : a < S.2.1) (hk : zzk S a = t) (h1 : 1 ≤ t) (h2 : t < 10) : A (bs + a) ∧ H[bs + a]? = some (arrV (D.2.2 t) (zzn S a) (zzel t bs M a)) := by
  obtain ⟨q1, q2⟩ := h.2 a ha (by omega)
  subst hk
  exact ⟨q1, q2.1 h2⟩
theorem zzRep.obj {D : zzD} {bs : Nat} {A : Nat → Prop} {S : zzS} {M : zzM} {hz : Nat} {H : Heap} {a ci : Nat} {r : vw_C} (h : zzRep D bs A S M hz H) (ha : a < S.2.1) (hk : zzk S a = 10 + ci) (hc : vwCl[ci]? = some r) : A (bs + a) ∧ t_OB (bs + a) (D.1 ci) r.2.2 (D.2.1 ci) H (fun k => zzval (zzty ci k) bs M a k) := by
  obtain ⟨q1, q2⟩ := h.2 a ha (by omega)
  obtain ⟨r', h1, h2⟩ := q2.2 (by omega)
  have e : zzk S a - 10 = ci := by omega
  rw [e] at h1 h2
  cases h1.symm.trans hc
  exact ⟨q1, h2⟩
theorem zzRep.toObj {D : zzD} {bs : Nat} {S : zzS} {M : zzM} {H : Heap} {a ci : Nat} {r : vw_C} (hk : zzk S a = 10 + ci) (hc : vwCl[ci]? = some r) (h : t_OB (bs + a) (D.1 ci) r.2.2 (D.2.1 ci) H (fun k => zzval (zzty ci k) bs M a k)) : zzAt D bs S M H a := by
  have e : zzk S a - 10 = ci := by omega
  exact ⟨fun q => by omega, fun _ => by rw [e]; exact ⟨r, hc, h⟩⟩
theorem zzRep.toArr {D : zzD} {bs : Nat} {S : zzS} {M : zzM} {H : Heap} {a t : Nat} (hk : zzk S a = t) (h2 : t < 10) (h : H[bs + a]? = some (arrV (D.2.2 t) (zzn S a) (zzel t bs M a))) : zzAt D bs S M H a := by
  subst hk
  exact ⟨fun _ => h, fun q => by omega⟩
def zzC (p : Program) (s : State) (m : MethodId) (args : Array Value) (c : Code) (cc : ByteArray) (own : String) (nL : Nat) (D : zzD) : Prop :=
  p.tables.exec = Jvm.exec ∧ c.code = cc ∧ c.maxLocals = nL ∧ s.vm.findClass own = some m.cls ∧ (∀ w ∈ zzW, w.before args s = true) ∧ zzK D s
def zzB (p : Program) (l : Launch) (e : Env) (R : Room) (s : State) (m : MethodId) (args : Array Value) (below : List Frame) (meth : Method) (c : Code) (nL : Nat) (D : zzD) (bs : Nat) (A : Nat → Prop) (Q : State → Prop) (cells slots : Nat) (S : zzS) (M : zzM) (hz : Nat) (pc : Nat) (lv : List (Nat × Value)) (st : List Value) : Prop :=
  ∀ (H : Heap) (locs : List Loc) (ls : Array Slot), zzRep D bs A S M hz H → va_S A s.heap H locs → lv_has ls nL lv → W p l e R s m args below meth c H locs cells slots Q (F0 m pc ls st)
/-- a class's words, of the whole list -/
def zzCls (ci : Nat) (Cn : String) (T : u_T) (N : Nat) : Prop := vwCl[ci]? = some (Cn, T, N) ∧ (∀ w ∈ u_ws Cn T N, w ∈ zzW) ∧ (∀ k, k < N → parseFieldDescriptor (T k).2.2.1 = some (zzty ci k)) ∧ (∀ a, a < N → ∀ b, b < N → a ≠ b → (T a).2.1 ≠ (T b).2.1)
def zzPc (D : zzD) (bs : Nat) (A : Nat → Prop) (S : zzS) (M : zzM) (hz : Nat) (av : List Value) : Array Value → State → Prop := va_Pc av (fun U => zzRep D bs A S M hz U.heap ∧ zzK D U)
def zzQc (D : zzD) (bs : Nat) (A : Nat → Prop) (S : zzS) (M : zzM) (hz : Nat) (res : Option Value) : Array Value → State → Outcome → State → Prop := fun _ st oc t => oc = .returned res ∧ zzRep D bs A S M hz t.heap ∧ va_F A st t
theorem zzPc.blind {D : zzD} {bs : Nat} {A : Nat → Prop} {S : zzS} {M : zzM} {hz : Nat} {av : List Value} : FrameBlind (zzPc D bs A S M hz av) := fun a U g mk q => by
  obtain ⟨q0, q1, q2⟩ := q
  exact ⟨q0, q1, zzK.moved (u := U) (U := U.calling g mk a) (Vm.Alike.refl U.vm) q2⟩
section ZZ
variable {p : Program} {l : Launch} {e : Env} {R : Room} {s : State} {m : MethodId} {args : Array Value} {below : List Frame} {meth : Method} {c : Code} {cells slots : Nat} {Q : State → Prop} {cc : ByteArray} {own : String} {nL : Nat} {D : zzD} {bs : Nat} {A : Nat → Prop} {S : zzS} {M : zzM} {hz : Nat} {pc : Nat} {lv lv' : List (Nat × Value)} {st : List Value} {β : Type} {out : β}
theorem zi_iconst (C : zzC p s m args c cc own nL D) {n : Int} {v : Int32} (d : decode cc pc = .ok (.iconst n, 1)) (hv : Int32.ofInt n = v) (k : zzB p l e R s m args below meth c nL D bs A Q cells slots S M hz (pc + 1) lv (.int v :: st)) : zzB p l e R s m args below meth c nL D bs A Q cells slots S M hz pc lv st := fun H locs ls hR hS hl => lv_iconst C.1 C.2.1 d hv (k H locs ls hR hS hl)
theorem zi_bipush (C : zzC p s m args c cc own nL D) {n : Int} {v : Int32} (d : decode cc pc = .ok (.bipush n, 2)) (hv : (Int8.ofInt n).toInt32 = v) (k : zzB p l e R s m args below meth c nL D bs A Q cells slots S M hz (pc + 2) lv (.int v :: st)) : zzB p l e R s m args below meth c nL D bs A Q cells slots S M hz pc lv st := fun H locs ls hR hS hl => lv_bipush C.1 C.2.1 d hv (k H locs ls hR hS hl)
theorem zi_sipush (C : zzC p s m args c cc own nL D) {n : Int} {v : Int32} (d : decode cc pc = .ok (.sipush n, 3)) (hv : (Int16.ofInt n).toInt32 = v) (k : zzB p l e R s m args below meth c nL D bs A Q cells slots S M hz (pc + 3) lv (.int v :: st)) : zzB p l e R s m args below meth c nL D bs A Q cells slots S M hz pc lv st := fun H locs ls hR hS hl => lv_sipush C.1 C.2.1 d hv (k H locs ls hR hS hl)
theorem zi_lconst (C : zzC p s m args c cc own nL D) {n : Fin 2} {v : Int64} (d : decode cc pc = .ok (.lconst n, 1)) (hv : Int64.ofNat (n : Nat) = v) (k : zzB p l e R s m args below meth c nL D bs A Q cells slots S M hz (pc + 1) lv (.long v :: st)) : zzB p l e R s m args below meth c nL D bs A Q cells slots S M hz pc lv st := fun H locs ls hR hS hl => lv_lconst C.1 C.2.1 d hv (k H locs ls hR hS hl)
theorem zi_ldc2 (C : zzC p s m args c cc own nL D) {index : Nat} {v : Int64} (hc : Cond.constantLong own index v ∈ zzW) (d : decode cc pc = .ok (.ldc2_w index, 3)) (k : zzB p l e R s m args below meth c nL D bs A Q cells slots S M hz (pc + 3) lv (.long v :: st)) : zzB p l e R s m args below meth c nL D bs A Q cells slots S M hz pc lv st := fun H locs ls hR hS hl => lv_ldc2 C.1 C.2.1 C.2.2.2.1 (C.2.2.2.2.1 _ hc) d (k H locs ls hR hS hl)
theorem zi_ldc (C : zzC p s m args c cc own nL D) {index : Nat} {v : Int32} (hc : Cond.constant own index v ∈ zzW) (d : decode cc pc = .ok (.ldc index, 2)) (k : zzB p l e R s m args below meth c nL D bs A Q cells slots S M hz (pc + 2) lv (.int v :: st)) : zzB p l e R s m args below meth c nL D bs A Q cells slots S M hz pc lv st := fun H locs ls hR hS hl => lv_ldc C.1 C.2.1 C.2.2.2.1 (C.2.2.2.2.1 _ hc) d (k H locs ls hR hS hl)
theorem zi_null (C : zzC p s m args c cc own nL D) (d : decode cc pc = .ok (.aconst_null, 1)) (k : zzB p l e R s m args below meth c nL D bs A Q cells slots S M hz (pc + 1) lv (.null :: st)) : zzB p l e R s m args below meth c nL D bs A Q cells slots S M hz pc lv st := fun H locs ls hR hS hl => lv_null C.1 C.2.1 d (k H locs ls hR hS hl)
theorem zi_iload_n (C : zzC p s m args c cc own nL D) {k : Fin 4} {i : Nat} {x : Int32} (d : decode cc pc = .ok (.iload_n k, 1)) (hi : (k : Nat) = i) (j : Nat) (hj : lv[j]? = some (i, .int x)) (kk : zzB p l e R s m args below meth c nL D bs A Q cells slots S M hz (pc + 1) lv (.int x :: st)) : zzB p l e R s m args below meth c nL D bs A Q cells slots S M hz pc lv st := fun H locs ls hR hS hl => lv_iload_n C.1 C.2.1 d hi (lv_at hl j hj) (kk H locs ls hR hS hl)
theorem zi_iload (C : zzC p s m args c cc own nL D) {i : Nat} {x : Int32} (d : decode cc pc = .ok (.iload i, 2)) (j : Nat) (hj : lv[j]? = some (i, .int x)) (kk : zzB p l e R s m args below meth c nL D bs A Q cells slots S M hz (pc + 2) lv (.int x :: st)) : zzB p l e R s m args below meth c nL D bs A Q cells slots S M hz pc lv st := fun H locs ls hR hS hl => lv_iload C.1 C.2.1 d (lv_at hl j hj) (kk H locs ls hR hS hl)
theorem zi_lload_n (C : zzC p s m args c cc own nL D) {k : Fin 4} {i : Nat} {x : Int64} (d : decode cc pc = .ok (.lload_n k, 1)) (hi : (k : Nat) = i) (j : Nat) (hj : lv[j]? = some (i, .long x)) (kk : zzB p l e R s m args below meth c nL D bs A Q cells slots S M hz (pc + 1) lv (.long x :: st)) : zzB p l e R s m args below meth c nL D bs A Q cells slots S M hz pc lv st := fun H locs ls hR hS hl => lv_lload_n C.1 C.2.1 d hi (lv_at hl j hj) (kk H locs ls hR hS hl)
theorem zi_lload (C : zzC p s m args c cc own nL D) {i : Nat} {x : Int64} (d : decode cc pc = .ok (.lload i, 2)) (j : Nat) (hj : lv[j]? = some (i, .long x)) (kk : zzB p l e R s m args below meth c nL D bs A Q cells slots S M hz (pc + 2) lv (.long x :: st)) : zzB p l e R s m args below meth c nL D bs A Q cells slots S M hz pc lv st := fun H locs ls hR hS hl => lv_lload C.1 C.2.1 d (lv_at hl j hj) (kk H locs ls hR hS hl)
theorem zi_aload_n (C : zzC p s m args c cc own nL D) {k : Fin 4} {i : Nat} {x : Nat} (d : decode cc pc = .ok (.aload_n k, 1)) (hi : (k : Nat) = i) (j : Nat) (hj : lv[j]? = some (i, .ref x)) (kk : zzB p l e R s m args below meth c nL D bs A Q cells slots S M hz (pc + 1) lv (.ref x :: st)) : zzB p l e R s m args below meth c nL D bs A Q cells slots S M hz pc lv st := fun H locs ls hR hS hl => lv_aload_n C.1 C.2.1 d hi (lv_at hl j hj) (kk H locs ls hR hS hl)
theorem zi_aload (C : zzC p s m args c cc own nL D) {i : Nat} {x : Nat} (d : decode cc pc = .ok (.aload i, 2)) (j : Nat) (hj : lv[j]? = some (i, .ref x)) (kk : zzB p l e R s m args below meth c nL D bs A Q cells slots S M hz (pc + 2) lv (.ref x :: st)) : zzB p l e R s m args below meth c nL D bs A Q cells slots S M hz pc lv st := fun H locs ls hR hS hl => lv_aload C.1 C.2.1 d (lv_at hl j hj) (kk H locs ls hR hS hl)
theorem zi_aload_nN (C : zzC p s m args c cc own nL D) {k : Fin 4} {i : Nat} (d : decode cc pc = .ok (.aload_n k, 1)) (hi : (k : Nat) = i) (j : Nat) (hj : lv[j]? = some (i, .null)) (kk : zzB p l e R s m args below meth c nL D bs A Q cells slots S M hz (pc + 1) lv (.null :: st)) : zzB p l e R s m args below meth c nL D bs A Q cells slots S M hz pc lv st := fun H locs ls hR hS hl => lv_aload_nN C.1 C.2.1 d hi (lv_at hl j hj) (kk H locs ls hR hS hl)
theorem zi_aloadN (C : zzC p s m args c cc own nL D) {i : Nat} (d : decode cc pc = .ok (.aload i, 2)) (j : Nat) (hj : lv[j]? = some (i, .null)) (kk : zzB p l e R s m args below meth c nL D bs A Q cells slots S M hz (pc + 2) lv (.null :: st)) : zzB p l e R s m args below meth c nL D bs A Q cells slots S M hz pc lv st := fun H locs ls hR hS hl => lv_aloadN C.1 C.2.1 d (lv_at hl j hj) (kk H locs ls hR hS hl)
theorem zi_istore_n (C : zzC p s m args c cc own nL D) {k : Fin 4} {i : Nat} {x : Int32} (d : decode cc pc = .ok (.istore_n k, 1)) (hi : (k : Nat) = i) (hn : i < nL) (hv : (i, Value.int x) :: lv.filter (fun q => !(q.1 == i) && !(q.1 + 1 == i && q.2.category == 2)) = lv') (kk : zzB p l e R s m args below meth c nL D bs A Q cells slots S M hz (pc + 1) lv' st) : zzB p l e R s m args below meth c nL D bs A Q cells slots S M hz pc lv (Value.int x :: st) := fun H locs ls hR hS hl => lv_istore_n C.1 C.2.1 d hi hl hn hv (fun ls' hl' => kk H locs ls' hR hS hl')
theorem zi_istore (C : zzC p s m args c cc own nL D) {i : Nat} {x : Int32} (d : decode cc pc = .ok (.istore i, 2)) (hn : i < nL) (hv : (i, Value.int x) :: lv.filter (fun q => !(q.1 == i) && !(q.1 + 1 == i && q.2.category == 2)) = lv') (kk : zzB p l e R s m args below meth c nL D bs A Q cells slots S M hz (pc + 2) lv' st) : zzB p l e R s m args below meth c nL D bs A Q cells slots S M hz pc lv (Value.int x :: st) := fun H locs ls hR hS hl => lv_istore C.1 C.2.1 d hl hn hv (fun ls' hl' => kk H locs ls' hR hS hl')
theorem zi_lstore_n (C : zzC p s m args c cc own nL D) {k : Fin 4} {i : Nat} {x : Int64} (d : decode cc pc = .ok (.lstore_n k, 1)) (hi : (k : Nat) = i) (hn : i + 1 < nL) (hv : (i, Value.long x) :: lv.filter (fun q => !(q.1 == i) && (!(q.1 == i + 1) && !(q.1 + 1 == i && q.2.category == 2))) = lv') (kk : zzB p l e R s m args below meth c nL D bs A Q cells slots S M hz (pc + 1) lv' st) : zzB p l e R s m args below meth c nL D bs A Q cells slots S M hz pc lv (Value.long x :: st) := fun H locs ls hR hS hl => lv_lstore_n C.1 C.2.1 d hi hl hn hv (fun ls' hl' => kk H locs ls' hR hS hl')
theorem zi_lstore (C : zzC p s m args c cc own nL D) {i : Nat} {x : Int64} (d : decode cc pc = .ok (.lstore i, 2)) (hn : i + 1 < nL) (hv : (i, Value.long x) :: lv.filter (fun q => !(q.1 == i) && (!(q.1 == i + 1) && !(q.1 + 1 == i && q.2.category == 2))) = lv') (kk : zzB p l e R s m args below meth c nL D bs A Q cells slots S M hz (pc + 2) lv' st) : zzB p l e R s m args below meth c nL D bs A Q cells slots S M hz pc lv (Value.long x :: st) := fun H locs ls hR hS hl => lv_lstore C.1 C.2.1 d hl hn hv (fun ls' hl' => kk H locs ls' hR hS hl')
theorem zi_astore_n (C : zzC p s m args c cc own nL D) {k : Fin 4} {i : Nat} {x : Nat} (d : decode cc pc = .ok (.astore_n k, 1)) (hi : (k : Nat) = i) (hn : i < nL) (hv : (i, Value.ref x) :: lv.filter (fun q => !(q.1 == i) && !(q.1 + 1 == i && q.2.category == 2)) = lv') (kk : zzB p l e R s m args below meth c nL D bs A Q cells slots S M hz (pc + 1) lv' st) : zzB p l e R s m args below meth c nL D bs A Q cells slots S M hz pc lv (Value.ref x :: st) := fun H locs ls hR hS hl => lv_astore_n C.1 C.2.1 d hi hl hn hv (fun ls' hl' => kk H locs ls' hR hS hl')
theorem zi_astore (C : zzC p s m args c cc own nL D) {i : Nat} {x : Nat} (d : decode cc pc = .ok (.astore i, 2)) (hn : i < nL) (hv : (i, Value.ref x) :: lv.filter (fun q => !(q.1 == i) && !(q.1 + 1 == i && q.2.category == 2)) = lv') (kk : zzB p l e R s m args below meth c nL D bs A Q cells slots S M hz (pc + 2) lv' st) : zzB p l e R s m args below meth c nL D bs A Q cells slots S M hz pc lv (Value.ref x :: st) := fun H locs ls hR hS hl => lv_astore C.1 C.2.1 d hl hn hv (fun ls' hl' => kk H locs ls' hR hS hl')
theorem zi_astore_nN (C : zzC p s m args c cc own nL D) {k : Fin 4} {i : Nat} (d : decode cc pc = .ok (.astore_n k, 1)) (hi : (k : Nat) = i) (hn : i < nL) (hv : (i, Value.null) :: lv.filter (fun q => !(q.1 == i) && !(q.1 + 1 == i && q.2.category == 2)) = lv') (kk : zzB p l e R s m args below meth c nL D bs A Q cells slots S M hz (pc + 1) lv' st) : zzB p l e R s m args below meth c nL D bs A Q cells slots S M hz pc lv (Value.null :: st) := fun H locs ls hR hS hl => lv_astore_nN C.1 C.2.1 d hi hl hn hv (fun ls' hl' => kk H locs ls' hR hS hl')
theorem zi_astoreN (C : zzC p s m args c cc own nL D) {i : Nat} (d : decode cc pc = .ok (.astore i, 2)) (hn : i < nL) (hv : (i, Value.null) :: lv.filter (fun q => !(q.1 == i) && !(q.1 + 1 == i && q.2.category == 2)) = lv') (kk : zzB p l e R s m args below meth c nL D bs A Q cells slots S M hz (pc + 2) lv' st) : zzB p l e R s m args below meth c nL D bs A Q cells slots S M hz pc lv (Value.null :: st) := fun H locs ls hR hS hl => lv_astoreN C.1 C.2.1 d hl hn hv (fun ls' hl' => kk H locs ls' hR hS hl')
theorem zi_iinc (C : zzC p s m args c cc own nL D) {i j : Nat} {n : Int} {x v0 : Int32} {K : Int32 → Option β} (d : decode cc pc = .ok (.iinc i n, 3)) (hj : lv[j]? = some (i, .int x)) (hv0 : Int32.ofInt n = v0) (hn : i < nL) (hF : zzlet (x + v0) K = some out) (lw : Int32 → List (Nat × Value)) (hv : ∀ v, (i, Value.int v) :: lv.filter (fun q => !(q.1 == i) && !(q.1 + 1 == i && q.2.category == 2)) = lw v) (kk : ∀ v, K v = some out → zzB p l e R s m args below meth c nL D bs A Q cells slots S M hz (pc + 3) (lw v) st) : zzB p l e R s m args below meth c nL D bs A Q cells slots S M hz pc lv st := fun H locs ls hR hS hl => lv_iinc C.1 C.2.1 d hl hj (by rw [hv0]) hn (hv (x + v0)) (fun ls' hl' => kk _ hF H locs ls' hR hS hl')
theorem zi_iadd (C : zzC p s m args c cc own nL D) {x : Int32} {y : Int32} {K : Int32 → Option β} (d : decode cc pc = .ok (.iadd, 1))  (hF : zzlet (x + y) K = some out) (kk : ∀ z, K z = some out → zzB p l e R s m args below meth c nL D bs A Q cells slots S M hz (pc + 1) lv (.int z :: st)) : zzB p l e R s m args below meth c nL D bs A Q cells slots S M hz pc lv (.int y :: .int x :: st) := fun H locs ls hR hS hl => lv_iadd C.1 C.2.1 d  (kk _ hF H locs ls hR hS hl)
theorem zi_isub (C : zzC p s m args c cc own nL D) {x : Int32} {y : Int32} {K : Int32 → Option β} (d : decode cc pc = .ok (.isub, 1))  (hF : zzlet (x - y) K = some out) (kk : ∀ z, K z = some out → zzB p l e R s m args below meth c nL D bs A Q cells slots S M hz (pc + 1) lv (.int z :: st)) : zzB p l e R s m args below meth c nL D bs A Q cells slots S M hz pc lv (.int y :: .int x :: st) := fun H locs ls hR hS hl => lv_isub C.1 C.2.1 d  (kk _ hF H locs ls hR hS hl)
theorem zi_imul (C : zzC p s m args c cc own nL D) {x : Int32} {y : Int32} {K : Int32 → Option β} (d : decode cc pc = .ok (.imul, 1))  (hF : zzlet (x * y) K = some out) (kk : ∀ z, K z = some out → zzB p l e R s m args below meth c nL D bs A Q cells slots S M hz (pc + 1) lv (.int z :: st)) : zzB p l e R s m args below meth c nL D bs A Q cells slots S M hz pc lv (.int y :: .int x :: st) := fun H locs ls hR hS hl => lv_imul C.1 C.2.1 d  (kk _ hF H locs ls hR hS hl)
theorem zi_iand (C : zzC p s m args c cc own nL D) {x : Int32} {y : Int32} {K : Int32 → Option β} (d : decode cc pc = .ok (.iand, 1))  (hF : zzlet (x &&& y) K = some out) (kk : ∀ z, K z = some out → zzB p l e R s m args below meth c nL D bs A Q cells slots S M hz (pc + 1) lv (.int z :: st)) : zzB p l e R s m args below meth c nL D bs A Q cells slots S M hz pc lv (.int y :: .int x :: st) := fun H locs ls hR hS hl => lv_iand C.1 C.2.1 d  (kk _ hF H locs ls hR hS hl)
theorem zi_ior (C : zzC p s m args c cc own nL D) {x : Int32} {y : Int32} {K : Int32 → Option β} (d : decode cc pc = .ok (.ior, 1))  (hF : zzlet (x ||| y) K = some out) (kk : ∀ z, K z = some out → zzB p l e R s m args below meth c nL D bs A Q cells slots S M hz (pc + 1) lv (.int z :: st)) : zzB p l e R s m args below meth c nL D bs A Q cells slots S M hz pc lv (.int y :: .int x :: st) := fun H locs ls hR hS hl => lv_ior C.1 C.2.1 d  (kk _ hF H locs ls hR hS hl)
theorem zi_ishl (C : zzC p s m args c cc own nL D) {x : Int32} {y : Int32} {K : Int32 → Option β} (d : decode cc pc = .ok (.ishl, 1))  (hF : zzlet (x <<< (y &&& 31)) K = some out) (kk : ∀ z, K z = some out → zzB p l e R s m args below meth c nL D bs A Q cells slots S M hz (pc + 1) lv (.int z :: st)) : zzB p l e R s m args below meth c nL D bs A Q cells slots S M hz pc lv (.int y :: .int x :: st) := fun H locs ls hR hS hl => lv_ishl C.1 C.2.1 d  (kk _ hF H locs ls hR hS hl)
theorem zi_ishr (C : zzC p s m args c cc own nL D) {x : Int32} {y : Int32} {K : Int32 → Option β} (d : decode cc pc = .ok (.ishr, 1))  (hF : zzlet (x >>> (y &&& 31)) K = some out) (kk : ∀ z, K z = some out → zzB p l e R s m args below meth c nL D bs A Q cells slots S M hz (pc + 1) lv (.int z :: st)) : zzB p l e R s m args below meth c nL D bs A Q cells slots S M hz pc lv (.int y :: .int x :: st) := fun H locs ls hR hS hl => lv_ishr C.1 C.2.1 d  (kk _ hF H locs ls hR hS hl)
theorem zi_ladd (C : zzC p s m args c cc own nL D) {x : Int64} {y : Int64} {K : Int64 → Option β} (d : decode cc pc = .ok (.ladd, 1))  (hF : zzlet (x + y) K = some out) (kk : ∀ z, K z = some out → zzB p l e R s m args below meth c nL D bs A Q cells slots S M hz (pc + 1) lv (.long z :: st)) : zzB p l e R s m args below meth c nL D bs A Q cells slots S M hz pc lv (.long y :: .long x :: st) := fun H locs ls hR hS hl => lv_ladd C.1 C.2.1 d  (kk _ hF H locs ls hR hS hl)
theorem zi_lsub (C : zzC p s m args c cc own nL D) {x : Int64} {y : Int64} {K : Int64 → Option β} (d : decode cc pc = .ok (.lsub, 1))  (hF : zzlet (x - y) K = some out) (kk : ∀ z, K z = some out → zzB p l e R s m args below meth c nL D bs A Q cells slots S M hz (pc + 1) lv (.long z :: st)) : zzB p l e R s m args below meth c nL D bs A Q cells slots S M hz pc lv (.long y :: .long x :: st) := fun H locs ls hR hS hl => lv_lsub C.1 C.2.1 d  (kk _ hF H locs ls hR hS hl)
theorem zi_lmul (C : zzC p s m args c cc own nL D) {x : Int64} {y : Int64} {K : Int64 → Option β} (d : decode cc pc = .ok (.lmul, 1))  (hF : zzlet (x * y) K = some out) (kk : ∀ z, K z = some out → zzB p l e R s m args below meth c nL D bs A Q cells slots S M hz (pc + 1) lv (.long z :: st)) : zzB p l e R s m args below meth c nL D bs A Q cells slots S M hz pc lv (.long y :: .long x :: st) := fun H locs ls hR hS hl => lv_lmul C.1 C.2.1 d  (kk _ hF H locs ls hR hS hl)
theorem zi_land (C : zzC p s m args c cc own nL D) {x : Int64} {y : Int64} {K : Int64 → Option β} (d : decode cc pc = .ok (.land, 1))  (hF : zzlet (x &&& y) K = some out) (kk : ∀ z, K z = some out → zzB p l e R s m args below meth c nL D bs A Q cells slots S M hz (pc + 1) lv (.long z :: st)) : zzB p l e R s m args below meth c nL D bs A Q cells slots S M hz pc lv (.long y :: .long x :: st) := fun H locs ls hR hS hl => lv_land C.1 C.2.1 d  (kk _ hF H locs ls hR hS hl)
theorem zi_lor (C : zzC p s m args c cc own nL D) {x : Int64} {y : Int64} {K : Int64 → Option β} (d : decode cc pc = .ok (.lor, 1))  (hF : zzlet (x ||| y) K = some out) (kk : ∀ z, K z = some out → zzB p l e R s m args below meth c nL D bs A Q cells slots S M hz (pc + 1) lv (.long z :: st)) : zzB p l e R s m args below meth c nL D bs A Q cells slots S M hz pc lv (.long y :: .long x :: st) := fun H locs ls hR hS hl => lv_lor C.1 C.2.1 d  (kk _ hF H locs ls hR hS hl)
theorem zi_ldiv (C : zzC p s m args c cc own nL D) {x y : Int64} {K : Int64 → Option β} (d : decode cc pc = .ok (.ldiv, 1)) (hF : zzck (!(y == 0)) (zzlet (x / y) K) = some out) (kk : ∀ z, K z = some out → zzB p l e R s m args below meth c nL D bs A Q cells slots S M hz (pc + 1) lv (.long z :: st)) : zzB p l e R s m args below meth c nL D bs A Q cells slots S M hz pc lv (.long y :: .long x :: st) := fun H locs ls hR hS hl => lv_ldiv C.1 C.2.1 d (by have h := (zzck_e hF).1; simpa using h) (kk _ (zzck_e hF).2 H locs ls hR hS hl)
theorem zi_lrem (C : zzC p s m args c cc own nL D) {x y : Int64} {K : Int64 → Option β} (d : decode cc pc = .ok (.lrem, 1)) (hF : zzck (!(y == 0)) (zzlet (x - x / y * y) K) = some out) (kk : ∀ z, K z = some out → zzB p l e R s m args below meth c nL D bs A Q cells slots S M hz (pc + 1) lv (.long z :: st)) : zzB p l e R s m args below meth c nL D bs A Q cells slots S M hz pc lv (.long y :: .long x :: st) := fun H locs ls hR hS hl => lv_lrem C.1 C.2.1 d (by have h := (zzck_e hF).1; simpa using h) (kk _ (zzck_e hF).2 H locs ls hR hS hl)
theorem zi_lshl (C : zzC p s m args c cc own nL D) {x : Int64} {y : Int32} {K : Int64 → Option β} (d : decode cc pc = .ok (.lshl, 1)) (hF : zzlet (x <<< (y.toInt64 &&& 63)) K = some out) (kk : ∀ z, K z = some out → zzB p l e R s m args below meth c nL D bs A Q cells slots S M hz (pc + 1) lv (.long z :: st)) : zzB p l e R s m args below meth c nL D bs A Q cells slots S M hz pc lv (.int y :: .long x :: st) := fun H locs ls hR hS hl => lv_lshl C.1 C.2.1 d rfl (kk _ hF H locs ls hR hS hl)
theorem zi_ineg (C : zzC p s m args c cc own nL D) {x : Int32} {K : Int32 → Option β} (d : decode cc pc = .ok (.ineg, 1)) (hF : zzlet (-x) K = some out) (kk : ∀ z, K z = some out → zzB p l e R s m args below meth c nL D bs A Q cells slots S M hz (pc + 1) lv (.int z :: st)) : zzB p l e R s m args below meth c nL D bs A Q cells slots S M hz pc lv (.int x :: st) := fun H locs ls hR hS hl => lv_ineg C.1 C.2.1 d (kk _ hF H locs ls hR hS hl)
theorem zi_lneg (C : zzC p s m args c cc own nL D) {x : Int64} {K : Int64 → Option β} (d : decode cc pc = .ok (.lneg, 1)) (hF : zzlet (-x) K = some out) (kk : ∀ z, K z = some out → zzB p l e R s m args below meth c nL D bs A Q cells slots S M hz (pc + 1) lv (.long z :: st)) : zzB p l e R s m args below meth c nL D bs A Q cells slots S M hz pc lv (.long x :: st) := fun H locs ls hR hS hl => lv_lneg C.1 C.2.1 d (kk _ hF H locs ls hR hS hl)
theorem zi_i2l (C : zzC p s m args c cc own nL D) {x : Int32} {K : Int64 → Option β} (d : decode cc pc = .ok (.i2l, 1)) (hF : zzlet (x.toInt64) K = some out) (kk : ∀ z, K z = some out → zzB p l e R s m args below meth c nL D bs A Q cells slots S M hz (pc + 1) lv (.long z :: st)) : zzB p l e R s m args below meth c nL D bs A Q cells slots S M hz pc lv (.int x :: st) := fun H locs ls hR hS hl => lv_i2l C.1 C.2.1 d rfl (kk _ hF H locs ls hR hS hl)
theorem zi_l2i (C : zzC p s m args c cc own nL D) {x : Int64} {K : Int32 → Option β} (d : decode cc pc = .ok (.l2i, 1)) (hF : zzlet (x.toInt32) K = some out) (kk : ∀ z, K z = some out → zzB p l e R s m args below meth c nL D bs A Q cells slots S M hz (pc + 1) lv (.int z :: st)) : zzB p l e R s m args below meth c nL D bs A Q cells slots S M hz pc lv (.long x :: st) := fun H locs ls hR hS hl => lv_l2i C.1 C.2.1 d rfl (kk _ hF H locs ls hR hS hl)
theorem zi_i2c (C : zzC p s m args c cc own nL D) {x : Int32} {K : Int32 → Option β} (d : decode cc pc = .ok (.i2c, 1)) (hF : zzlet ((x.toUInt32 % 65536).toInt32) K = some out) (kk : ∀ z, K z = some out → zzB p l e R s m args below meth c nL D bs A Q cells slots S M hz (pc + 1) lv (.int z :: st)) : zzB p l e R s m args below meth c nL D bs A Q cells slots S M hz pc lv (.int x :: st) := fun H locs ls hR hS hl => lv_i2c C.1 C.2.1 d rfl (kk _ hF H locs ls hR hS hl)
theorem zi_lcmp (C : zzC p s m args c cc own nL D) {x y : Int64} {K : Int32 → Option β} (d : decode cc pc = .ok (.lcmp, 1)) (hF : zzlet (lg_cmp x y) K = some out) (kk : ∀ z, K z = some out → zzB p l e R s m args below meth c nL D bs A Q cells slots S M hz (pc + 1) lv (.int z :: st)) : zzB p l e R s m args below meth c nL D bs A Q cells slots S M hz pc lv (.long y :: .long x :: st) := fun H locs ls hR hS hl => W.lcmp C.1 C.2.1 d (kk _ hF H locs ls hR hS hl)
theorem zi_dup (C : zzC p s m args c cc own nL D) {v : Value} (d : decode cc pc = .ok (.dup, 1)) (hc : v.category = 1) (k : zzB p l e R s m args below meth c nL D bs A Q cells slots S M hz (pc + 1) lv (v :: v :: st)) : zzB p l e R s m args below meth c nL D bs A Q cells slots S M hz pc lv (v :: st) := fun H locs ls hR hS hl => lv_dup C.1 C.2.1 d hc (k H locs ls hR hS hl)
theorem zi_pop (C : zzC p s m args c cc own nL D) {v : Value} (d : decode cc pc = .ok (.pop, 1)) (hc : v.category = 1) (k : zzB p l e R s m args below meth c nL D bs A Q cells slots S M hz (pc + 1) lv st) : zzB p l e R s m args below meth c nL D bs A Q cells slots S M hz pc lv (v :: st) := fun H locs ls hR hS hl => lv_pop C.1 C.2.1 d hc (k H locs ls hR hS hl)
theorem zi_dup_x1 (C : zzC p s m args c cc own nL D) {va vb : Value} (d : decode cc pc = .ok (.dup_x1, 1)) (ha : va.category = 1) (hb : vb.category = 1) (k : zzB p l e R s m args below meth c nL D bs A Q cells slots S M hz (pc + 1) lv (va :: vb :: va :: st)) : zzB p l e R s m args below meth c nL D bs A Q cells slots S M hz pc lv (va :: vb :: st) := fun H locs ls hR hS hl => lv_dup_x1 C.1 C.2.1 d ha hb (k H locs ls hR hS hl)
theorem zi_dup2 (C : zzC p s m args c cc own nL D) {va vb : Value} (d : decode cc pc = .ok (.dup2, 1)) (ha : va.category = 1) (hb : vb.category = 1) (k : zzB p l e R s m args below meth c nL D bs A Q cells slots S M hz (pc + 1) lv (va :: vb :: va :: vb :: st)) : zzB p l e R s m args below meth c nL D bs A Q cells slots S M hz pc lv (va :: vb :: st) := fun H locs ls hR hS hl => lv_dup2_11 C.1 C.2.1 d ha hb (k H locs ls hR hS hl)
theorem zi_goto (C : zzC p s m args c cc own nL D) {off : Int} {tgt : Nat} (d : decode cc pc = .ok (.goto off, 3)) (ht : (pc : Int) + off = (tgt : Int)) (k : zzB p l e R s m args below meth c nL D bs A Q cells slots S M hz tgt lv st) : zzB p l e R s m args below meth c nL D bs A Q cells slots S M hz pc lv st := fun H locs ls hR hS hl => lv_goto C.1 C.2.1 d ht (k H locs ls hR hS hl)
theorem zi_if_eq (C : zzC p s m args c cc own nL D) {x : Int32} {off : Int} {tgt : Nat} {i : Decidable (x = 0)} {Ft Ff : Option β} (d : decode cc pc = .ok (.ifCond .eq off, 3)) (ht : (pc : Int) + off = (tgt : Int)) (hF : @ite _ (x = 0) i Ft Ff = some out) (kt : Ft = some out → zzB p l e R s m args below meth c nL D bs A Q cells slots S M hz tgt lv st) (kf : Ff = some out → zzB p l e R s m args below meth c nL D bs A Q cells slots S M hz (pc + 3) lv st) : zzB p l e R s m args below meth c nL D bs A Q cells slots S M hz pc lv (.int x :: st) := fun H locs ls hR hS hl => lv_if_eq C.1 C.2.1 d ht (fun h => kt (by rw [if_pos h] at hF; exact hF) H locs ls hR hS hl) (fun h => kf (by rw [if_neg h] at hF; exact hF) H locs ls hR hS hl)
theorem zi_icmp_eq (C : zzC p s m args c cc own nL D) {x y : Int32} {off : Int} {tgt : Nat} {i : Decidable (x = y)} {Ft Ff : Option β} (d : decode cc pc = .ok (.if_icmp .eq off, 3)) (ht : (pc : Int) + off = (tgt : Int)) (hF : @ite _ (x = y) i Ft Ff = some out) (kt : Ft = some out → zzB p l e R s m args below meth c nL D bs A Q cells slots S M hz tgt lv st) (kf : Ff = some out → zzB p l e R s m args below meth c nL D bs A Q cells slots S M hz (pc + 3) lv st) : zzB p l e R s m args below meth c nL D bs A Q cells slots S M hz pc lv (.int y :: .int x :: st) := fun H locs ls hR hS hl => lv_icmp_eq C.1 C.2.1 d ht (fun h => kt (by rw [if_pos h] at hF; exact hF) H locs ls hR hS hl) (fun h => kf (by rw [if_neg h] at hF; exact hF) H locs ls hR hS hl)
theorem zi_if_ne (C : zzC p s m args c cc own nL D) {x : Int32} {off : Int} {tgt : Nat} {i : Decidable (x = 0)} {Ft Ff : Option β} (d : decode cc pc = .ok (.ifCond .ne off, 3)) (ht : (pc : Int) + off = (tgt : Int)) (hF : @ite _ (x = 0) i Ff Ft = some out) (kt : Ft = some out → zzB p l e R s m args below meth c nL D bs A Q cells slots S M hz tgt lv st) (kf : Ff = some out → zzB p l e R s m args below meth c nL D bs A Q cells slots S M hz (pc + 3) lv st) : zzB p l e R s m args below meth c nL D bs A Q cells slots S M hz pc lv (.int x :: st) := fun H locs ls hR hS hl => lv_if_ne C.1 C.2.1 d ht (fun h => kt (by rw [if_neg h] at hF; exact hF) H locs ls hR hS hl) (fun h => kf (by rw [if_pos h] at hF; exact hF) H locs ls hR hS hl)
theorem zi_icmp_ne (C : zzC p s m args c cc own nL D) {x y : Int32} {off : Int} {tgt : Nat} {i : Decidable (x = y)} {Ft Ff : Option β} (d : decode cc pc = .ok (.if_icmp .ne off, 3)) (ht : (pc : Int) + off = (tgt : Int)) (hF : @ite _ (x = y) i Ff Ft = some out) (kt : Ft = some out → zzB p l e R s m args below meth c nL D bs A Q cells slots S M hz tgt lv st) (kf : Ff = some out → zzB p l e R s m args below meth c nL D bs A Q cells slots S M hz (pc + 3) lv st) : zzB p l e R s m args below meth c nL D bs A Q cells slots S M hz pc lv (.int y :: .int x :: st) := fun H locs ls hR hS hl => lv_icmp_ne C.1 C.2.1 d ht (fun h => kt (by rw [if_neg h] at hF; exact hF) H locs ls hR hS hl) (fun h => kf (by rw [if_pos h] at hF; exact hF) H locs ls hR hS hl)
theorem zi_if_lt (C : zzC p s m args c cc own nL D) {x : Int32} {off : Int} {tgt : Nat} {i : Decidable (x < 0)} {Ft Ff : Option β} (d : decode cc pc = .ok (.ifCond .lt off, 3)) (ht : (pc : Int) + off = (tgt : Int)) (hF : @ite _ (x < 0) i Ft Ff = some out) (kt : Ft = some out → zzB p l e R s m args below meth c nL D bs A Q cells slots S M hz tgt lv st) (kf : Ff = some out → zzB p l e R s m args below meth c nL D bs A Q cells slots S M hz (pc + 3) lv st) : zzB p l e R s m args below meth c nL D bs A Q cells slots S M hz pc lv (.int x :: st) := fun H locs ls hR hS hl => lv_if_lt C.1 C.2.1 d ht (fun h => kt (by rw [if_pos h] at hF; exact hF) H locs ls hR hS hl) (fun h => kf (by rw [if_neg h] at hF; exact hF) H locs ls hR hS hl)
theorem zi_icmp_lt (C : zzC p s m args c cc own nL D) {x y : Int32} {off : Int} {tgt : Nat} {i : Decidable (x < y)} {Ft Ff : Option β} (d : decode cc pc = .ok (.if_icmp .lt off, 3)) (ht : (pc : Int) + off = (tgt : Int)) (hF : @ite _ (x < y) i Ft Ff = some out) (kt : Ft = some out → zzB p l e R s m args below meth c nL D bs A Q cells slots S M hz tgt lv st) (kf : Ff = some out → zzB p l e R s m args below meth c nL D bs A Q cells slots S M hz (pc + 3) lv st) : zzB p l e R s m args below meth c nL D bs A Q cells slots S M hz pc lv (.int y :: .int x :: st) := fun H locs ls hR hS hl => lv_icmp_lt C.1 C.2.1 d ht (fun h => kt (by rw [if_pos h] at hF; exact hF) H locs ls hR hS hl) (fun h => kf (by rw [if_neg h] at hF; exact hF) H locs ls hR hS hl)
theorem zi_if_ge (C : zzC p s m args c cc own nL D) {x : Int32} {off : Int} {tgt : Nat} {i : Decidable (0 ≤ x)} {Ft Ff : Option β} (d : decode cc pc = .ok (.ifCond .ge off, 3)) (ht : (pc : Int) + off = (tgt : Int)) (hF : @ite _ (0 ≤ x) i Ft Ff = some out) (kt : Ft = some out → zzB p l e R s m args below meth c nL D bs A Q cells slots S M hz tgt lv st) (kf : Ff = some out → zzB p l e R s m args below meth c nL D bs A Q cells slots S M hz (pc + 3) lv st) : zzB p l e R s m args below meth c nL D bs A Q cells slots S M hz pc lv (.int x :: st) := fun H locs ls hR hS hl => lv_if_ge C.1 C.2.1 d ht (fun h => kt (by rw [if_pos h] at hF; exact hF) H locs ls hR hS hl) (fun h => kf (by rw [if_neg h] at hF; exact hF) H locs ls hR hS hl)
theorem zi_icmp_ge (C : zzC p s m args c cc own nL D) {x y : Int32} {off : Int} {tgt : Nat} {i : Decidable (y ≤ x)} {Ft Ff : Option β} (d : decode cc pc = .ok (.if_icmp .ge off, 3)) (ht : (pc : Int) + off = (tgt : Int)) (hF : @ite _ (y ≤ x) i Ft Ff = some out) (kt : Ft = some out → zzB p l e R s m args below meth c nL D bs A Q cells slots S M hz tgt lv st) (kf : Ff = some out → zzB p l e R s m args below meth c nL D bs A Q cells slots S M hz (pc + 3) lv st) : zzB p l e R s m args below meth c nL D bs A Q cells slots S M hz pc lv (.int y :: .int x :: st) := fun H locs ls hR hS hl => lv_icmp_ge C.1 C.2.1 d ht (fun h => kt (by rw [if_pos h] at hF; exact hF) H locs ls hR hS hl) (fun h => kf (by rw [if_neg h] at hF; exact hF) H locs ls hR hS hl)
theorem zi_if_gt (C : zzC p s m args c cc own nL D) {x : Int32} {off : Int} {tgt : Nat} {i : Decidable (0 < x)} {Ft Ff : Option β} (d : decode cc pc = .ok (.ifCond .gt off, 3)) (ht : (pc : Int) + off = (tgt : Int)) (hF : @ite _ (0 < x) i Ft Ff = some out) (kt : Ft = some out → zzB p l e R s m args below meth c nL D bs A Q cells slots S M hz tgt lv st) (kf : Ff = some out → zzB p l e R s m args below meth c nL D bs A Q cells slots S M hz (pc + 3) lv st) : zzB p l e R s m args below meth c nL D bs A Q cells slots S M hz pc lv (.int x :: st) := fun H locs ls hR hS hl => lv_if_gt C.1 C.2.1 d ht (fun h => kt (by rw [if_pos h] at hF; exact hF) H locs ls hR hS hl) (fun h => kf (by rw [if_neg h] at hF; exact hF) H locs ls hR hS hl)
theorem zi_icmp_gt (C : zzC p s m args c cc own nL D) {x y : Int32} {off : Int} {tgt : Nat} {i : Decidable (y < x)} {Ft Ff : Option β} (d : decode cc pc = .ok (.if_icmp .gt off, 3)) (ht : (pc : Int) + off = (tgt : Int)) (hF : @ite _ (y < x) i Ft Ff = some out) (kt : Ft = some out → zzB p l e R s m args below meth c nL D bs A Q cells slots S M hz tgt lv st) (kf : Ff = some out → zzB p l e R s m args below meth c nL D bs A Q cells slots S M hz (pc + 3) lv st) : zzB p l e R s m args below meth c nL D bs A Q cells slots S M hz pc lv (.int y :: .int x :: st) := fun H locs ls hR hS hl => lv_icmp_gt C.1 C.2.1 d ht (fun h => kt (by rw [if_pos h] at hF; exact hF) H locs ls hR hS hl) (fun h => kf (by rw [if_neg h] at hF; exact hF) H locs ls hR hS hl)
theorem zi_if_le (C : zzC p s m args c cc own nL D) {x : Int32} {off : Int} {tgt : Nat} {i : Decidable (x ≤ 0)} {Ft Ff : Option β} (d : decode cc pc = .ok (.ifCond .le off, 3)) (ht : (pc : Int) + off = (tgt : Int)) (hF : @ite _ (x ≤ 0) i Ft Ff = some out) (kt : Ft = some out → zzB p l e R s m args below meth c nL D bs A Q cells slots S M hz tgt lv st) (kf : Ff = some out → zzB p l e R s m args below meth c nL D bs A Q cells slots S M hz (pc + 3) lv st) : zzB p l e R s m args below meth c nL D bs A Q cells slots S M hz pc lv (.int x :: st) := fun H locs ls hR hS hl => lv_if_le C.1 C.2.1 d ht (fun h => kt (by rw [if_pos h] at hF; exact hF) H locs ls hR hS hl) (fun h => kf (by rw [if_neg h] at hF; exact hF) H locs ls hR hS hl)
theorem zi_icmp_le (C : zzC p s m args c cc own nL D) {x y : Int32} {off : Int} {tgt : Nat} {i : Decidable (x ≤ y)} {Ft Ff : Option β} (d : decode cc pc = .ok (.if_icmp .le off, 3)) (ht : (pc : Int) + off = (tgt : Int)) (hF : @ite _ (x ≤ y) i Ft Ff = some out) (kt : Ft = some out → zzB p l e R s m args below meth c nL D bs A Q cells slots S M hz tgt lv st) (kf : Ff = some out → zzB p l e R s m args below meth c nL D bs A Q cells slots S M hz (pc + 3) lv st) : zzB p l e R s m args below meth c nL D bs A Q cells slots S M hz pc lv (.int y :: .int x :: st) := fun H locs ls hR hS hl => lv_icmp_le C.1 C.2.1 d ht (fun h => kt (by rw [if_pos h] at hF; exact hF) H locs ls hR hS hl) (fun h => kf (by rw [if_neg h] at hF; exact hF) H locs ls hR hS hl)
theorem zi_ifnull (C : zzC p s m args c cc own nL D) {x : Nat} {off : Int} (d : decode cc pc = .ok (.ifnull off, 3)) (k : zzB p l e R s m args below meth c nL D bs A Q cells slots S M hz (pc + 3) lv st) : zzB p l e R s m args below meth c nL D bs A Q cells slots S M hz pc lv (.ref x :: st) := fun H locs ls hR hS hl => lv_ifnull C.1 C.2.1 d (k H locs ls hR hS hl)
theorem zi_ifnullN (C : zzC p s m args c cc own nL D) {off : Int} {tgt : Nat} (d : decode cc pc = .ok (.ifnull off, 3)) (ht : (pc : Int) + off = (tgt : Int)) (k : zzB p l e R s m args below meth c nL D bs A Q cells slots S M hz tgt lv st) : zzB p l e R s m args below meth c nL D bs A Q cells slots S M hz pc lv (.null :: st) := fun H locs ls hR hS hl => lv_ifnullN C.1 C.2.1 d ht (k H locs ls hR hS hl)
theorem zi_ifnonnull (C : zzC p s m args c cc own nL D) {x : Nat} {off : Int} {tgt : Nat} (d : decode cc pc = .ok (.ifnonnull off, 3)) (ht : (pc : Int) + off = (tgt : Int)) (k : zzB p l e R s m args below meth c nL D bs A Q cells slots S M hz tgt lv st) : zzB p l e R s m args below meth c nL D bs A Q cells slots S M hz pc lv (.ref x :: st) := fun H locs ls hR hS hl => lv_ifnonnull C.1 C.2.1 d ht (k H locs ls hR hS hl)
theorem zi_ifnonnullN (C : zzC p s m args c cc own nL D) {off : Int} (d : decode cc pc = .ok (.ifnonnull off, 3)) (k : zzB p l e R s m args below meth c nL D bs A Q cells slots S M hz (pc + 3) lv st) : zzB p l e R s m args below meth c nL D bs A Q cells slots S M hz pc lv (.null :: st) := fun H locs ls hR hS hl => lv_ifnonnullN C.1 C.2.1 d (k H locs ls hR hS hl)
theorem zi_lookup (C : zzC p s m args c cc own nL D) {dflt : Int} {ps : Array (Int × Int)} {len : Nat} {x : Int32} (d : decode cc pc = .ok (.lookupswitch dflt ps, len)) (hp : (ps.toList.zip (ps.toList.drop 1)).all (fun (a, next) => a.1 < next.1) = true) (off : Int) (tgt : Nat) (ho : Op.lookupswitch.offset ps.toList dflt x.toInt = off) (ht : (pc : Int) + off = (tgt : Int)) (k : zzB p l e R s m args below meth c nL D bs A Q cells slots S M hz tgt lv st) : zzB p l e R s m args below meth c nL D bs A Q cells slots S M hz pc lv (.int x :: st) := fun H locs ls hR hS hl => lv_lookup C.1 C.2.1 d hp ho ht (k H locs ls hR hS hl)
theorem zi_tableOut (C : zzC p s m args c cc own nL D) {dflt lo hi : Int} {offs : Array Int} {len : Nat} {x : Int32} (d : decode cc pc = .ok (.tableswitch dflt lo hi offs, len)) (tgt : Nat) (h : x.toInt < lo ∨ hi < x.toInt) (ht : (pc : Int) + dflt = (tgt : Int)) (k : zzB p l e R s m args below meth c nL D bs A Q cells slots S M hz tgt lv st) : zzB p l e R s m args below meth c nL D bs A Q cells slots S M hz pc lv (.int x :: st) := fun H locs ls hR hS hl => lv_tableOut C.1 C.2.1 d h ht (k H locs ls hR hS hl)
theorem zi_tableIn (C : zzC p s m args c cc own nL D) {dflt lo hi : Int} {offs : Array Int} {len : Nat} {x : Int32} (d : decode cc pc = .ok (.tableswitch dflt lo hi offs, len)) (off : Int) (tgt : Nat) (h1 : ¬ x.toInt < lo) (h2 : ¬ hi < x.toInt) (ho : offs[(x.toInt - lo).toNat]? = some off) (ht : (pc : Int) + off = (tgt : Int)) (k : zzB p l e R s m args below meth c nL D bs A Q cells slots S M hz tgt lv st) : zzB p l e R s m args below meth c nL D bs A Q cells slots S M hz pc lv (.int x :: st) := fun H locs ls hR hS hl => lv_tableIn C.1 C.2.1 d h1 h2 ho ht (k H locs ls hR hS hl)
theorem zz_getW (C : zzC p s m args c cc own nL D) {ci index k N a : Nat} {Cn ref : String} {T : u_T} (hc : zzCls ci Cn T N) (hk : k < N) (hlink : Cond.fieldLink own index ref (T k).2.1 (T k).2.2.1 ∈ zzW) (href : ref = (T k).1) (ha : a < S.2.1) (hka : zzk S a = 10 + ci) (d : decode cc pc = .ok (.getfield index, 3)) {H : Heap} {locs : List Loc} {ls : Array Slot} (hR : zzRep D bs A S M hz H) (kk : W p l e R s m args below meth c H locs cells slots Q (F0 m (pc + 3) ls (zzval (zzty ci k) bs M a k :: st))) : W p l e R s m args below meth c H locs cells slots Q (F0 m pc ls (.ref (bs + a) :: st)) := by
  obtain ⟨h0, h1, h2, h3⟩ := hc
  obtain ⟨-, cell, q1, q2, q3, q4⟩ := hR.obj ha hka h0
  obtain ⟨hS', hfc, kC, hkC, hkind⟩ := C.2.2.2.2.2.1 ci _ h0
  obtain ⟨cf, kf, fi, f, hi, hsl⟩ := hS' k hk
  subst href
  refine W.getf C.1 C.2.1 C.2.2.2.1 (C.2.2.2.2.1 _ hlink) hi (u_facts hfc hkC (u_lays C.2.2.2.2.1 h1 hk) hi).1 q1 (by rw [q3]; exact fun h => by cases h) (v := zzval (zzty ci k) bs M a k) ?_ rfl rfl d kk
  rw [hsl, q4 k hk]
theorem zi_getI (C : zzC p s m args c cc own nL D) {ci index k N a : Nat} {Cn ref : String} {T : u_T} (hc : zzCls ci Cn T N) (hk : k < N) (hlink : Cond.fieldLink own index ref (T k).2.1 (T k).2.2.1 ∈ zzW) (href : ref = (T k).1) (ha : a < S.2.1) (hka : zzk S a = 10 + ci) (d : decode cc pc = .ok (.getfield index, 3)) (hty : ∀ (M : zzM) (bs a : Nat), zzval (zzty ci k) bs M a k = .int (zzI M a k)) {K : Int32 → Option β} (hF : zzlet (zzI M a k) K = some out) (kk : ∀ x, K x = some out → zzB p l e R s m args below meth c nL D bs A Q cells slots S M hz (pc + 3) lv (.int x :: st)) : zzB p l e R s m args below meth c nL D bs A Q cells slots S M hz pc lv (.ref (bs + a) :: st) := fun H locs ls hR hS hl => zz_getW C hc hk hlink href ha hka d hR (by rw [hty]; exact kk _ hF H locs ls hR hS hl)
theorem zi_getL (C : zzC p s m args c cc own nL D) {ci index k N a : Nat} {Cn ref : String} {T : u_T} (hc : zzCls ci Cn T N) (hk : k < N) (hlink : Cond.fieldLink own index ref (T k).2.1 (T k).2.2.1 ∈ zzW) (href : ref = (T k).1) (ha : a < S.2.1) (hka : zzk S a = 10 + ci) (d : decode cc pc = .ok (.getfield index, 3)) (hty : ∀ (M : zzM) (bs a : Nat), zzval (zzty ci k) bs M a k = .long (zzL M a k)) {K : Int64 → Option β} (hF : zzlet (zzL M a k) K = some out) (kk : ∀ x, K x = some out → zzB p l e R s m args below meth c nL D bs A Q cells slots S M hz (pc + 3) lv (.long x :: st)) : zzB p l e R s m args below meth c nL D bs A Q cells slots S M hz pc lv (.ref (bs + a) :: st) := fun H locs ls hR hS hl => zz_getW C hc hk hlink href ha hka d hR (by rw [hty]; exact kk _ hF H locs ls hR hS hl)
theorem zi_getR (C : zzC p s m args c cc own nL D) {ci index k N a : Nat} {Cn ref : String} {T : u_T} (hc : zzCls ci Cn T N) (hk : k < N) (hlink : Cond.fieldLink own index ref (T k).2.1 (T k).2.2.1 ∈ zzW) (href : ref = (T k).1) (ha : a < S.2.1) (hka : zzk S a = 10 + ci) (d : decode cc pc = .ok (.getfield index, 3)) (hty : ∀ (M : zzM) (bs a : Nat), zzval (zzty ci k) bs M a k = zzrf bs (zzR M a k)) {t : Nat} {K : Nat → Option β} (hF : zzref S t (zzR M a k) K = some out) (kk : ∀ b, b < S.2.1 → zzk S b = t → K b = some out → zzB p l e R s m args below meth c nL D bs A Q cells slots S M hz (pc + 3) lv (.ref (bs + b) :: st)) : zzB p l e R s m args below meth c nL D bs A Q cells slots S M hz pc lv (.ref (bs + a) :: st) := fun H locs ls hR hS hl => zz_getW C hc hk hlink href ha hka d hR (by obtain ⟨b, e1, e2, e3, e4⟩ := zzref_e hF; rw [hty, e1]; exact kk b e2 e3 e4 H locs ls hR hS hl)
theorem zi_getO (C : zzC p s m args c cc own nL D) {ci index k N a : Nat} {Cn ref : String} {T : u_T} (hc : zzCls ci Cn T N) (hk : k < N) (hlink : Cond.fieldLink own index ref (T k).2.1 (T k).2.2.1 ∈ zzW) (href : ref = (T k).1) (ha : a < S.2.1) (hka : zzk S a = 10 + ci) (d : decode cc pc = .ok (.getfield index, 3)) (hty : ∀ (M : zzM) (bs a : Nat), zzval (zzty ci k) bs M a k = zzrf bs (zzR M a k)) {t : Nat} {x : Option β} {K : Nat → Option β} (hF : zzopt S t (zzR M a k) x K = some out) (kn : x = some out → zzB p l e R s m args below meth c nL D bs A Q cells slots S M hz (pc + 3) lv (.null :: st)) (kk : ∀ b, b < S.2.1 → zzk S b = t → K b = some out → zzB p l e R s m args below meth c nL D bs A Q cells slots S M hz (pc + 3) lv (.ref (bs + b) :: st)) : zzB p l e R s m args below meth c nL D bs A Q cells slots S M hz pc lv (.ref (bs + a) :: st) := fun H locs ls hR hS hl => zz_getW C hc hk hlink href ha hka d hR (by rcases zzopt_e hF with ⟨e1, e2⟩ | ⟨b, e1, e2, e3, e4⟩; (rw [hty, e1]; exact kn e2 H locs ls hR hS hl); (rw [hty, e1]; exact kk b e2 e3 e4 H locs ls hR hS hl))
theorem zz_putW (C : zzC p s m args c cc own nL D) {ci index k N a : Nat} {Cn ref : String} {T : u_T} (hc : zzCls ci Cn T N) (hk : k < N) (hlink : Cond.fieldLink own index ref (T k).2.1 (T k).2.2.1 ∈ zzW) (href : ref = (T k).1) (hfin : (T k).2.2.2 = false ∨ ((T k).2.2.2 = true ∧ meth.name = "<init>" ∧ (T k).1 = own)) (ha : a < S.2.1) (hka : zzk S a = 10 + ci) {v : Value} (hn : narrow (zzty ci k) v = v) (hfit : fits (zzty ci k) v = true) (M' : zzM) (hM : ∀ b, b ≠ a → zzsame M M' b) (hM1 : ∀ j, j < N → j ≠ k → zzval (zzty ci j) bs M' a j = zzval (zzty ci j) bs M a j) (hM2 : zzval (zzty ci k) bs M' a k = v) (d : decode cc pc = .ok (.putfield index, 3)) {H : Heap} {locs : List Loc} {ls : Array Slot} (hR : zzRep D bs A S M hz H) (hS : va_S A s.heap H locs) (hl : lv_has ls nL lv) (kk : zzB p l e R s m args below meth c nL D bs A Q cells slots S M' hz (pc + 3) lv st) : W p l e R s m args below meth c H locs cells slots Q (F0 m pc ls (v :: .ref (bs + a) :: st)) := by
  obtain ⟨h0, h1, h2, h3⟩ := hc
  obtain ⟨hAa, cell, q1, q2, q3, q4⟩ := hR.obj ha hka h0
  obtain ⟨hS', hfc, kC, hkC, hkind⟩ := C.2.2.2.2.2.1 ci _ h0
  obtain ⟨cf, kf, fi, f, hi, hsl⟩ := hS' k hk
  have hap : ∀ x y, x < N → y < N → x ≠ y → (D.2.1 ci) x ≠ (D.2.1 ci) y := by
    intro x y hx hy hne
    obtain ⟨_, _, _, fa, hia, ea⟩ := hS' x hx
    obtain ⟨_, _, _, fb, hib, eb⟩ := hS' y hy
    rw [← ea, ← eb]
    refine u_apart (u_lays C.2.2.2.2.1 h1 hx) (u_lays C.2.2.2.2.1 h1 hy) hia hib ?_
    rw [(State.fieldFound?_type hia (h2 x hx)).1, (State.fieldFound?_type hib (h2 y hy)).1]
    exact h3 x hx y hy hne
  subst href
  have fin : ∀ H' : Heap, H'[bs + a]? = some (cell.setSlot f.slot v) → H'.size = H.size → (∀ q, q ≠ bs + a → H'[q]? = H[q]?) → W p l e R s m args below meth c H' (locs ++ [⟨bs + a, f.slot⟩]) cells slots Q (F0 m (pc + 3) ls st) := by
    intro H' e1 e2 e3
    rw [hsl] at e1 ⊢
    refine kk H' _ ls (hR.wr hM e2 e3 (zzRep.toObj hka h0 ?_)) (hS.put e2 e3 hAa) hl
    refine t_OB.to (V := updV (fun j => zzval (zzty ci j) bs M a j) k v) ⟨_, e1, q2, q3, t_set q4 hap hk v⟩ (fun j hj => ?_)
    by_cases hjk : j = k
    · subst hjk; simp [updV, hM2]
    · simp [updV, hjk, hM1 j hj hjk]
  have hst := (u_facts hfc hkC (u_lays C.2.2.2.2.1 h1 hk) hi).1
  have hlt : f.slot < cell.slots.size := by rw [hsl]; exact k2_hasslot (q4 k hk)
  rcases hfin with hfin | ⟨hfin, hin, hdecl⟩
  · have hlay := C.2.2.2.2.1 _ (h1 _ (u_in_lay hk))
    unfold u_lay at hlay
    rw [if_neg (by rw [hfin]; decide)] at hlay
    have h6 := u_store hfc hkC hkind hlay hi (h2 k hk) hn hfit
    exact W.putK C.1 C.2.1 (f := f) ⟨C.2.2.2.1, C.2.2.2.2.1 _ hlink, ⟨_, _, _, hi⟩, hst⟩ (by rw [q2]; exact h6) q1 q3 hlt rfl rfl d fin
  · have hlay := C.2.2.2.2.1 _ (h1 _ (u_in_lay hk))
    unfold u_lay at hlay
    rw [if_pos hfin] at hlay
    have hcf : m.cls = cf := by
      obtain ⟨_, _, c', _, _, _, -, -, hf', -, -, -, hown2, -⟩ := Cond.laysFinal_spec hlay
      have e1 : c' = cf := by have := hi.symm.trans hf'; simp at this; exact this.1.symm
      rw [hdecl] at hown2
      rw [← e1]; exact Option.some.inj (C.2.2.2.1.symm.trans hown2)
    exact W.putFinK C.1 C.2.1 C.2.2.2.1 (C.2.2.2.2.1 _ hlink) hi hst hcf hin (by rw [q2]; exact u_fits hfc hkC hkind (u_lays C.2.2.2.2.1 h1 hk) hi (h2 k hk) hn hfit) q1 q3 hlt rfl rfl d fin
theorem zzval_I {ty : FieldType} {bs : Nat} {M : zzM} {a j k : Nat} {v : Int32} (h : j ≠ k) : zzval ty bs (zzsI M a k v) a j = zzval ty bs M a j := by
  cases ty <;> simp [zzval, zzsI, zzI, zzL, zzR, zz2, h]
theorem zzval_L {ty : FieldType} {bs : Nat} {M : zzM} {a j k : Nat} {v : Int64} (h : j ≠ k) : zzval ty bs (zzsL M a k v) a j = zzval ty bs M a j := by
  cases ty <;> simp [zzval, zzsL, zzI, zzL, zzR, zz2, h]
theorem zzval_R {ty : FieldType} {bs : Nat} {M : zzM} {a j k : Nat} {v : Option Nat} (h : j ≠ k) : zzval ty bs (zzsR M a k v) a j = zzval ty bs M a j := by
  cases ty <;> simp [zzval, zzsR, zzI, zzL, zzR, zz2, h]
theorem zzI_s {M : zzM} {a k : Nat} {v : Int32} : zzI (zzsI M a k v) a k = v := by simp [zzI, zzsI, zz2]
theorem zzL_s {M : zzM} {a k : Nat} {v : Int64} : zzL (zzsL M a k v) a k = v := by simp [zzL, zzsL, zz2]
theorem zzR_s {M : zzM} {a k : Nat} {v : Option Nat} : zzR (zzsR M a k v) a k = v := by simp [zzR, zzsR, zz2]
def zzokZ (v : Int32) : Bool := v == 0 || v == 1
def zzokC (v : Int32) : Bool := (v.toUInt32 % 65536).toInt32 == v
theorem zzokZ_n {v : Int32} (h : zzokZ v = true) : narrow .boolean (.int v) = .int v ∧ fits .boolean (.int v) = true := by
  simp only [zzokZ, Bool.or_eq_true, beq_iff_eq] at h
  rcases h with rfl | rfl <;> exact ⟨by decide +kernel, by decide +kernel⟩
theorem zzokC_n {v : Int32} (h : zzokC v = true) : narrow .char (.int v) = .int v ∧ fits .char (.int v) = true := by
  simp only [zzokC, beq_iff_eq] at h
  have h1 := pk_nc v
  have h2 := pk_fc v
  rw [h] at h1 h2
  exact ⟨h1, h2⟩
theorem zi_putI (C : zzC p s m args c cc own nL D) {ci index k N a : Nat} {Cn ref : String} {T : u_T} (hc : zzCls ci Cn T N) (hk : k < N) (hlink : Cond.fieldLink own index ref (T k).2.1 (T k).2.2.1 ∈ zzW) (href : ref = (T k).1) (hfin : (T k).2.2.2 = false ∨ ((T k).2.2.2 = true ∧ meth.name = "<init>" ∧ (T k).1 = own)) (ha : a < S.2.1) (hka : zzk S a = 10 + ci) (d : decode cc pc = .ok (.putfield index, 3)) (hty : zzty ci k = .int) {v : Int32} {K : zzM → Option β} (hF : zzlet (zzsI M a k v) K = some out) (kk : ∀ M1, K M1 = some out → zzB p l e R s m args below meth c nL D bs A Q cells slots S M1 hz (pc + 3) lv st) : zzB p l e R s m args below meth c nL D bs A Q cells slots S M hz pc lv (.int v :: .ref (bs + a) :: st) := fun H locs ls hR hS hl => zz_putW C hc hk hlink href hfin ha hka (by rw [hty]; rfl) (by rw [hty]; rfl) (zzsI M a k v) zzsI_o (fun j _ h => zzval_I h) (by rw [hty]; exact congrArg Value.int zzI_s) d hR hS hl (kk _ hF)
theorem zi_putZ (C : zzC p s m args c cc own nL D) {ci index k N a : Nat} {Cn ref : String} {T : u_T} (hc : zzCls ci Cn T N) (hk : k < N) (hlink : Cond.fieldLink own index ref (T k).2.1 (T k).2.2.1 ∈ zzW) (href : ref = (T k).1) (hfin : (T k).2.2.2 = false ∨ ((T k).2.2.2 = true ∧ meth.name = "<init>" ∧ (T k).1 = own)) (ha : a < S.2.1) (hka : zzk S a = 10 + ci) (d : decode cc pc = .ok (.putfield index, 3)) (hty : zzty ci k = .boolean) {v : Int32} {K : zzM → Option β} (hF : zzck (zzokZ v) (zzlet (zzsI M a k v) K) = some out) (kk : ∀ M1, K M1 = some out → zzB p l e R s m args below meth c nL D bs A Q cells slots S M1 hz (pc + 3) lv st) : zzB p l e R s m args below meth c nL D bs A Q cells slots S M hz pc lv (.int v :: .ref (bs + a) :: st) := fun H locs ls hR hS hl => zz_putW C hc hk hlink href hfin ha hka (by rw [hty]; exact (zzokZ_n (zzck_e hF).1).1) (by rw [hty]; exact (zzokZ_n (zzck_e hF).1).2) (zzsI M a k v) zzsI_o (fun j _ h => zzval_I h) (by rw [hty]; exact congrArg Value.int zzI_s) d hR hS hl (kk _ (zzck_e hF).2)
theorem zi_putC (C : zzC p s m args c cc own nL D) {ci index k N a : Nat} {Cn ref : String} {T : u_T} (hc : zzCls ci Cn T N) (hk : k < N) (hlink : Cond.fieldLink own index ref (T k).2.1 (T k).2.2.1 ∈ zzW) (href : ref = (T k).1) (hfin : (T k).2.2.2 = false ∨ ((T k).2.2.2 = true ∧ meth.name = "<init>" ∧ (T k).1 = own)) (ha : a < S.2.1) (hka : zzk S a = 10 + ci) (d : decode cc pc = .ok (.putfield index, 3)) (hty : zzty ci k = .char) {v : Int32} {K : zzM → Option β} (hF : zzck (zzokC v) (zzlet (zzsI M a k v) K) = some out) (kk : ∀ M1, K M1 = some out → zzB p l e R s m args below meth c nL D bs A Q cells slots S M1 hz (pc + 3) lv st) : zzB p l e R s m args below meth c nL D bs A Q cells slots S M hz pc lv (.int v :: .ref (bs + a) :: st) := fun H locs ls hR hS hl => zz_putW C hc hk hlink href hfin ha hka (by rw [hty]; exact (zzokC_n (zzck_e hF).1).1) (by rw [hty]; exact (zzokC_n (zzck_e hF).1).2) (zzsI M a k v) zzsI_o (fun j _ h => zzval_I h) (by rw [hty]; exact congrArg Value.int zzI_s) d hR hS hl (kk _ (zzck_e hF).2)
theorem zi_putL (C : zzC p s m args c cc own nL D) {ci index k N a : Nat} {Cn ref : String} {T : u_T} (hc : zzCls ci Cn T N) (hk : k < N) (hlink : Cond.fieldLink own index ref (T k).2.1 (T k).2.2.1 ∈ zzW) (href : ref = (T k).1) (hfin : (T k).2.2.2 = false ∨ ((T k).2.2.2 = true ∧ meth.name = "<init>" ∧ (T k).1 = own)) (ha : a < S.2.1) (hka : zzk S a = 10 + ci) (d : decode cc pc = .ok (.putfield index, 3)) (hty : zzty ci k = .long) {v : Int64} {K : zzM → Option β} (hF : zzlet (zzsL M a k v) K = some out) (kk : ∀ M1, K M1 = some out → zzB p l e R s m args below meth c nL D bs A Q cells slots S M1 hz (pc + 3) lv st) : zzB p l e R s m args below meth c nL D bs A Q cells slots S M hz pc lv (.long v :: .ref (bs + a) :: st) := fun H locs ls hR hS hl => zz_putW C hc hk hlink href hfin ha hka (by rw [hty]; rfl) (by rw [hty]; rfl) (zzsL M a k v) zzsL_o (fun j _ h => zzval_L h) (by rw [hty]; exact congrArg Value.long zzL_s) d hR hS hl (kk _ hF)
theorem zi_putR (C : zzC p s m args c cc own nL D) {ci index k N a : Nat} {Cn ref : String} {T : u_T} (hc : zzCls ci Cn T N) (hk : k < N) (hlink : Cond.fieldLink own index ref (T k).2.1 (T k).2.2.1 ∈ zzW) (href : ref = (T k).1) (hfin : (T k).2.2.2 = false ∨ ((T k).2.2.2 = true ∧ meth.name = "<init>" ∧ (T k).1 = own)) (ha : a < S.2.1) (hka : zzk S a = 10 + ci) (d : decode cc pc = .ok (.putfield index, 3)) (hty : (∃ n, zzty ci k = .object n) ∨ ∃ t, zzty ci k = .array t) {b : Nat} {K : zzM → Option β} (hF : zzlet (zzsR M a k (some b)) K = some out) (kk : ∀ M1, K M1 = some out → zzB p l e R s m args below meth c nL D bs A Q cells slots S M1 hz (pc + 3) lv st) : zzB p l e R s m args below meth c nL D bs A Q cells slots S M hz pc lv (.ref (bs + b) :: .ref (bs + a) :: st) := fun H locs ls hR hS hl => zz_putW C hc hk hlink href hfin ha hka (by rcases hty with ⟨n, hty⟩ | ⟨n, hty⟩ <;> rw [hty] <;> rfl) (by rcases hty with ⟨n, hty⟩ | ⟨n, hty⟩ <;> rw [hty] <;> rfl) (zzsR M a k (some b)) zzsR_o (fun j _ h => zzval_R h) (by rcases hty with ⟨n, hty⟩ | ⟨n, hty⟩ <;> rw [hty] <;> (show zzrf bs (zzR _ a k) = _; rw [zzR_s]; rfl)) d hR hS hl (kk _ hF)
theorem zi_putN (C : zzC p s m args c cc own nL D) {ci index k N a : Nat} {Cn ref : String} {T : u_T} (hc : zzCls ci Cn T N) (hk : k < N) (hlink : Cond.fieldLink own index ref (T k).2.1 (T k).2.2.1 ∈ zzW) (href : ref = (T k).1) (hfin : (T k).2.2.2 = false ∨ ((T k).2.2.2 = true ∧ meth.name = "<init>" ∧ (T k).1 = own)) (ha : a < S.2.1) (hka : zzk S a = 10 + ci) (d : decode cc pc = .ok (.putfield index, 3)) (hty : (∃ n, zzty ci k = .object n) ∨ ∃ t, zzty ci k = .array t)  {K : zzM → Option β} (hF : zzlet (zzsR M a k none) K = some out) (kk : ∀ M1, K M1 = some out → zzB p l e R s m args below meth c nL D bs A Q cells slots S M1 hz (pc + 3) lv st) : zzB p l e R s m args below meth c nL D bs A Q cells slots S M hz pc lv (.null :: .ref (bs + a) :: st) := fun H locs ls hR hS hl => zz_putW C hc hk hlink href hfin ha hka (by rcases hty with ⟨n, hty⟩ | ⟨n, hty⟩ <;> rw [hty] <;> rfl) (by rcases hty with ⟨n, hty⟩ | ⟨n, hty⟩ <;> rw [hty] <;> rfl) (zzsR M a k none) zzsR_o (fun j _ h => zzval_R h) (by rcases hty with ⟨n, hty⟩ | ⟨n, hty⟩ <;> rw [hty] <;> (show zzrf bs (zzR _ a k) = _; rw [zzR_s]; rfl)) d hR hS hl (kk _ hF)
theorem zzel_1 (bs : Nat) (M : zzM) (a : Nat) : zzel 1 bs M a = fun j => .int (zzI M a j) := by funext j; simp [zzel]
theorem zzel_2 (bs : Nat) (M : zzM) (a : Nat) : zzel 2 bs M a = fun j => .long (zzL M a j) := by funext j; simp [zzel]
theorem zzel_3 (bs : Nat) (M : zzM) (a : Nat) : zzel 3 bs M a = fun j => .int (zzI M a j) := by funext j; simp [zzel]
theorem zzel_4 (bs : Nat) (M : zzM) (a : Nat) : zzel 4 bs M a = fun j => zzrf bs (zzR M a j) := by funext j; simp [zzel]
theorem zzel_5 (bs : Nat) (M : zzM) (a : Nat) : zzel 5 bs M a = fun j => zzrf bs (zzR M a j) := by funext j; simp [zzel]
theorem zi_iald (C : zzC p s m args c cc own nL D) {a : Nat} {i : Int32} (ha : a < S.2.1) (hk : zzk S a = 1) (d : decode cc pc = .ok (.iaload, 1)) {K : Int32 → Option β} (hF : zzix S a i (zzlet (zzI M a i.toNatClampNeg) K) = some out) (kk : ∀ x, K x = some out → zzB p l e R s m args below meth c nL D bs A Q cells slots S M hz (pc + 1) lv (.int x :: st)) : zzB p l e R s m args below meth c nL D bs A Q cells slots S M hz pc lv (.int i :: .ref (bs + a) :: st) := by
  intro H locs ls hR hS hl
  obtain ⟨hi, hF⟩ := zzix_e hF
  obtain ⟨-, hcell⟩ := hR.arr ha hk (by decide) (by decide)
  have hlt : i.toNatClampNeg < zzn S a := Nat.not_le.mp fun q => hi (Or.inr q)
  refine W.iald (v := .int (zzI M a i.toNatClampNeg)) C.1 C.2.1 hcell ((C.2.2.2.2.2.2 1 (by decide) (by decide)).1 _ _) (fun q => by cases q) (by rw [arrV_size]; exact hi) (by rw [arrV_read _ _ hlt, zzel_1]) rfl rfl d (kk _ hF H locs ls hR hS hl)
theorem zi_lald (C : zzC p s m args c cc own nL D) {a : Nat} {i : Int32} (ha : a < S.2.1) (hk : zzk S a = 2) (d : decode cc pc = .ok (.laload, 1)) {K : Int64 → Option β} (hF : zzix S a i (zzlet (zzL M a i.toNatClampNeg) K) = some out) (kk : ∀ x, K x = some out → zzB p l e R s m args below meth c nL D bs A Q cells slots S M hz (pc + 1) lv (.long x :: st)) : zzB p l e R s m args below meth c nL D bs A Q cells slots S M hz pc lv (.int i :: .ref (bs + a) :: st) := by
  intro H locs ls hR hS hl
  obtain ⟨hi, hF⟩ := zzix_e hF
  obtain ⟨-, hcell⟩ := hR.arr ha hk (by decide) (by decide)
  have hlt : i.toNatClampNeg < zzn S a := Nat.not_le.mp fun q => hi (Or.inr q)
  refine W.lald (v := .long (zzL M a i.toNatClampNeg)) C.1 C.2.1 hcell ((C.2.2.2.2.2.2 2 (by decide) (by decide)).1 _ _) (fun q => by cases q) (by rw [arrV_size]; exact hi) (by rw [arrV_read _ _ hlt, zzel_2]) rfl rfl d (kk _ hF H locs ls hR hS hl)
theorem zi_cald (C : zzC p s m args c cc own nL D) {a : Nat} {i : Int32} (ha : a < S.2.1) (hk : zzk S a = 3) (d : decode cc pc = .ok (.caload, 1)) {K : Int32 → Option β} (hF : zzix S a i (zzlet (zzI M a i.toNatClampNeg) K) = some out) (kk : ∀ x, K x = some out → zzB p l e R s m args below meth c nL D bs A Q cells slots S M hz (pc + 1) lv (.int x :: st)) : zzB p l e R s m args below meth c nL D bs A Q cells slots S M hz pc lv (.int i :: .ref (bs + a) :: st) := by
  intro H locs ls hR hS hl
  obtain ⟨hi, hF⟩ := zzix_e hF
  obtain ⟨-, hcell⟩ := hR.arr ha hk (by decide) (by decide)
  have hlt : i.toNatClampNeg < zzn S a := Nat.not_le.mp fun q => hi (Or.inr q)
  refine W.cald (v := .int (zzI M a i.toNatClampNeg)) C.1 C.2.1 hcell ((C.2.2.2.2.2.2 3 (by decide) (by decide)).1 _ _) (fun q => by cases q) (by rw [arrV_size]; exact hi) (by rw [arrV_read _ _ hlt, zzel_3]) rfl rfl d (kk _ hF H locs ls hR hS hl)
theorem zz_aald4 (C : zzC p s m args c cc own nL D) {a : Nat} {i : Int32} (ha : a < S.2.1) (hk : zzk S a = 4) (d : decode cc pc = .ok (.aaload, 1)) (hi : ¬ (i < 0 ∨ zzn S a ≤ i.toNatClampNeg)) {H : Heap} {locs : List Loc} {ls : Array Slot} (hR : zzRep D bs A S M hz H) (kk : W p l e R s m args below meth c H locs cells slots Q (F0 m (pc + 1) ls (zzrf bs (zzR M a i.toNatClampNeg) :: st))) : W p l e R s m args below meth c H locs cells slots Q (F0 m pc ls (.int i :: .ref (bs + a) :: st)) := by
  obtain ⟨-, hcell⟩ := hR.arr ha hk (by decide) (by decide)
  have hlt : i.toNatClampNeg < zzn S a := Nat.not_le.mp fun q => hi (Or.inr q)
  exact W.aald (v := zzrf bs (zzR M a i.toNatClampNeg)) C.1 C.2.1 hcell ((C.2.2.2.2.2.2 4 (by decide) (by decide)).1 _ _) (by decide) (fun q => by cases q) (by rw [arrV_size]; exact hi) (by rw [arrV_read _ _ hlt, zzel_4]) rfl rfl d kk
theorem zi_aald4R (C : zzC p s m args c cc own nL D) {a : Nat} {i : Int32} (ha : a < S.2.1) (hk : zzk S a = 4) (d : decode cc pc = .ok (.aaload, 1)) {t : Nat} {K : Nat → Option β} (hF : zzix S a i (zzref S t (zzR M a i.toNatClampNeg) K) = some out) (kk : ∀ b, b < S.2.1 → zzk S b = t → K b = some out → zzB p l e R s m args below meth c nL D bs A Q cells slots S M hz (pc + 1) lv (.ref (bs + b) :: st)) : zzB p l e R s m args below meth c nL D bs A Q cells slots S M hz pc lv (.int i :: .ref (bs + a) :: st) := by
  intro H locs ls hR hS hl
  obtain ⟨hi, hF⟩ := zzix_e hF
  obtain ⟨b, e1, e2, e3, e4⟩ := zzref_e hF
  refine zz_aald4 C ha hk d hi hR ?_
  rw [e1]
  exact kk b e2 e3 e4 H locs ls hR hS hl
theorem zi_aald4O (C : zzC p s m args c cc own nL D) {a : Nat} {i : Int32} (ha : a < S.2.1) (hk : zzk S a = 4) (d : decode cc pc = .ok (.aaload, 1)) {t : Nat} {x : Option β} {K : Nat → Option β} (hF : zzix S a i (zzopt S t (zzR M a i.toNatClampNeg) x K) = some out) (kn : x = some out → zzB p l e R s m args below meth c nL D bs A Q cells slots S M hz (pc + 1) lv (.null :: st)) (kk : ∀ b, b < S.2.1 → zzk S b = t → K b = some out → zzB p l e R s m args below meth c nL D bs A Q cells slots S M hz (pc + 1) lv (.ref (bs + b) :: st)) : zzB p l e R s m args below meth c nL D bs A Q cells slots S M hz pc lv (.int i :: .ref (bs + a) :: st) := by
  intro H locs ls hR hS hl
  obtain ⟨hi, hF⟩ := zzix_e hF
  refine zz_aald4 C ha hk d hi hR ?_
  rcases zzopt_e hF with ⟨e1, e2⟩ | ⟨b, e1, e2, e3, e4⟩
  · rw [e1]; exact kn e2 H locs ls hR hS hl
  · rw [e1]; exact kk b e2 e3 e4 H locs ls hR hS hl
theorem zz_aald5 (C : zzC p s m args c cc own nL D) {a : Nat} {i : Int32} (ha : a < S.2.1) (hk : zzk S a = 5) (d : decode cc pc = .ok (.aaload, 1)) (hi : ¬ (i < 0 ∨ zzn S a ≤ i.toNatClampNeg)) {H : Heap} {locs : List Loc} {ls : Array Slot} (hR : zzRep D bs A S M hz H) (kk : W p l e R s m args below meth c H locs cells slots Q (F0 m (pc + 1) ls (zzrf bs (zzR M a i.toNatClampNeg) :: st))) : W p l e R s m args below meth c H locs cells slots Q (F0 m pc ls (.int i :: .ref (bs + a) :: st)) := by
  obtain ⟨-, hcell⟩ := hR.arr ha hk (by decide) (by decide)
  have hlt : i.toNatClampNeg < zzn S a := Nat.not_le.mp fun q => hi (Or.inr q)
  exact W.aald (v := zzrf bs (zzR M a i.toNatClampNeg)) C.1 C.2.1 hcell ((C.2.2.2.2.2.2 5 (by decide) (by decide)).1 _ _) (by decide) (fun q => by cases q) (by rw [arrV_size]; exact hi) (by rw [arrV_read _ _ hlt, zzel_5]) rfl rfl d kk
theorem zi_aald5R (C : zzC p s m args c cc own nL D) {a : Nat} {i : Int32} (ha : a < S.2.1) (hk : zzk S a = 5) (d : decode cc pc = .ok (.aaload, 1)) {t : Nat} {K : Nat → Option β} (hF : zzix S a i (zzref S t (zzR M a i.toNatClampNeg) K) = some out) (kk : ∀ b, b < S.2.1 → zzk S b = t → K b = some out → zzB p l e R s m args below meth c nL D bs A Q cells slots S M hz (pc + 1) lv (.ref (bs + b) :: st)) : zzB p l e R s m args below meth c nL D bs A Q cells slots S M hz pc lv (.int i :: .ref (bs + a) :: st) := by
  intro H locs ls hR hS hl
  obtain ⟨hi, hF⟩ := zzix_e hF
  obtain ⟨b, e1, e2, e3, e4⟩ := zzref_e hF
  refine zz_aald5 C ha hk d hi hR ?_
  rw [e1]
  exact kk b e2 e3 e4 H locs ls hR hS hl
theorem zi_aald5O (C : zzC p s m args c cc own nL D) {a : Nat} {i : Int32} (ha : a < S.2.1) (hk : zzk S a = 5) (d : decode cc pc = .ok (.aaload, 1)) {t : Nat} {x : Option β} {K : Nat → Option β} (hF : zzix S a i (zzopt S t (zzR M a i.toNatClampNeg) x K) = some out) (kn : x = some out → zzB p l e R s m args below meth c nL D bs A Q cells slots S M hz (pc + 1) lv (.null :: st)) (kk : ∀ b, b < S.2.1 → zzk S b = t → K b = some out → zzB p l e R s m args below meth c nL D bs A Q cells slots S M hz (pc + 1) lv (.ref (bs + b) :: st)) : zzB p l e R s m args below meth c nL D bs A Q cells slots S M hz pc lv (.int i :: .ref (bs + a) :: st) := by
  intro H locs ls hR hS hl
  obtain ⟨hi, hF⟩ := zzix_e hF
  refine zz_aald5 C ha hk d hi hR ?_
  rcases zzopt_e hF with ⟨e1, e2⟩ | ⟨b, e1, e2, e3, e4⟩
  · rw [e1]; exact kn e2 H locs ls hR hS hl
  · rw [e1]; exact kk b e2 e3 e4 H locs ls hR hS hl
theorem zi_iast (C : zzC p s m args c cc own nL D) {a : Nat} {i : Int32} (ha : a < S.2.1) (hk : zzk S a = 1) {x : Int32} (d : decode cc pc = .ok (.iastore, 1)) {K : zzM → Option β} (hF : zzix S a i (zzlet (zzsI M a i.toNatClampNeg x) K) = some out) (kk : ∀ M1, K M1 = some out → zzB p l e R s m args below meth c nL D bs A Q cells slots S M1 hz (pc + 1) lv st) : zzB p l e R s m args below meth c nL D bs A Q cells slots S M hz pc lv (.int x :: .int i :: .ref (bs + a) :: st) := by
  intro H locs ls hR hS hl
  obtain ⟨hi, hF⟩ := zzix_e hF
  obtain ⟨hA, hcell⟩ := hR.arr ha hk (by decide) (by decide)
  refine W.iast C.1 C.2.1 hcell ((C.2.2.2.2.2.2 1 (by decide) (by decide)).1 _ _) (fun q => by cases q) (by rw [arrV_size]; exact hi) rfl rfl d fun H1 e1 z oq => ?_
  refine kk _ hF H1 _ ls (hR.wr zzsI_o z oq (zzRep.toArr hk (by decide) ?_)) (hS.put z oq hA) hl
  rw [e1, arrV_store]
  congr 2
  funext q
  rw [zzel_1, zzel_1]
  by_cases hq : q = i.toNatClampNeg
  · subst hq; simp [updV, zzI, zzsI, zz2]
  · simp [updV, hq, zzI, zzsI, zz2]
theorem zi_last (C : zzC p s m args c cc own nL D) {a : Nat} {i : Int32} (ha : a < S.2.1) (hk : zzk S a = 2) {x : Int64} (d : decode cc pc = .ok (.lastore, 1)) {K : zzM → Option β} (hF : zzix S a i (zzlet (zzsL M a i.toNatClampNeg x) K) = some out) (kk : ∀ M1, K M1 = some out → zzB p l e R s m args below meth c nL D bs A Q cells slots S M1 hz (pc + 1) lv st) : zzB p l e R s m args below meth c nL D bs A Q cells slots S M hz pc lv (.long x :: .int i :: .ref (bs + a) :: st) := by
  intro H locs ls hR hS hl
  obtain ⟨hi, hF⟩ := zzix_e hF
  obtain ⟨hA, hcell⟩ := hR.arr ha hk (by decide) (by decide)
  refine W.last C.1 C.2.1 hcell ((C.2.2.2.2.2.2 2 (by decide) (by decide)).1 _ _) (fun q => by cases q) (by rw [arrV_size]; exact hi) rfl rfl d fun H1 e1 z oq => ?_
  refine kk _ hF H1 _ ls (hR.wr zzsL_o z oq (zzRep.toArr hk (by decide) ?_)) (hS.put z oq hA) hl
  rw [e1, arrV_store]
  congr 2
  funext q
  rw [zzel_2, zzel_2]
  by_cases hq : q = i.toNatClampNeg
  · subst hq; simp [updV, zzL, zzsL, zz2]
  · simp [updV, hq, zzL, zzsL, zz2]
theorem zi_cast (C : zzC p s m args c cc own nL D) {a : Nat} {i : Int32} (ha : a < S.2.1) (hk : zzk S a = 3) {x : Int32} (d : decode cc pc = .ok (.castore, 1)) {K : zzM → Option β} (hF : zzix S a i (zzck (zzokC x) (zzlet (zzsI M a i.toNatClampNeg x) K)) = some out) (kk : ∀ M1, K M1 = some out → zzB p l e R s m args below meth c nL D bs A Q cells slots S M1 hz (pc + 1) lv st) : zzB p l e R s m args below meth c nL D bs A Q cells slots S M hz pc lv (.int x :: .int i :: .ref (bs + a) :: st) := by
  intro H locs ls hR hS hl
  obtain ⟨hi, hF⟩ := zzix_e hF
  obtain ⟨hA, hcell⟩ := hR.arr ha hk (by decide) (by decide)
  obtain ⟨hok, hF⟩ := zzck_e hF
  refine W.cast C.1 C.2.1 hcell ((C.2.2.2.2.2.2 3 (by decide) (by decide)).1 _ _) (fun q => by cases q) (by rw [arrV_size]; exact hi) rfl rfl d fun H1 e1 z oq => ?_
  refine kk _ hF H1 _ ls (hR.wr zzsI_o z oq (zzRep.toArr hk (by decide) ?_)) (hS.put z oq hA) hl
  rw [e1, arrV_store]
  rw [(zzokC_n hok).1]
  congr 2
  funext q
  rw [zzel_3, zzel_3]
  by_cases hq : q = i.toNatClampNeg
  · subst hq; simp [updV, zzI, zzsI, zz2]
  · simp [updV, hq, zzI, zzsI, zz2]
theorem zi_aast (C : zzC p s m args c cc own nL D) {a : Nat} {i : Int32} (ha : a < S.2.1) (hk : zzk S a = 4) {b ci N : Nat} {T : u_T} (hcs : vwCl[ci]? = some ("BoardScript$Statement", T, N)) (hb : b < S.2.1) (hkb : zzk S b = 10 + ci) (d : decode cc pc = .ok (.aastore, 1)) {K : zzM → Option β} (hF : zzix S a i (zzlet (zzsR M a i.toNatClampNeg (some b)) K) = some out) (kk : ∀ M1, K M1 = some out → zzB p l e R s m args below meth c nL D bs A Q cells slots S M1 hz (pc + 1) lv st) : zzB p l e R s m args below meth c nL D bs A Q cells slots S M hz pc lv (.ref (bs + b) :: .int i :: .ref (bs + a) :: st) := by
  intro H locs ls hR hS hl
  obtain ⟨hi, hF⟩ := zzix_e hF
  obtain ⟨hA, hcell⟩ := hR.arr ha hk (by decide) (by decide)
  obtain ⟨-, cellV, g1, g2, g3, -⟩ := hR.obj hb hkb hcs
  have hlt : i.toNatClampNeg < zzn S a := Nat.not_le.mp fun q => hi (Or.inr q)
  have h0 : ¬ i < 0 := fun q => hi (Or.inl q)
  have hcls := (C.2.2.2.2.2.1 ci _ hcs).2
  obtain ⟨kA, comp, k1, k2, k3, -⟩ := (C.2.2.2.2.2.2 4 (by decide) (by decide)).2
  have hcomp : comp = D.1 ci := Option.some.inj (k3.symm.trans hcls.1)
  subst hcomp
  obtain ⟨kC, hkC, -⟩ := hcls.2
  refine W.aast C.1 C.2.1 hcell (fun q h => by cases h) (fun h => by cases h) k1 k2 rfl hkC ⟨h0, by rw [arrV_size]; exact hlt⟩ g1 (fun q h => by rw [g3] at h; cases h) (by rw [g2]; exact hkC) (by rw [g2]; exact va_assign hcls) rfl rfl d fun H1 e1 z oq => ?_
  refine kk _ hF H1 _ ls (hR.wr zzsR_o z oq (zzRep.toArr hk (by decide) ?_)) (hS.put z oq hA) hl
  rw [e1, arrV_store]
  congr 2
  funext q
  rw [zzel_4, zzel_4]
  by_cases hq : q = i.toNatClampNeg
  · subst hq; simp [updV, zzR, zzsR, zz2, zzrf, va_rf]
  · simp [updV, hq, zzR, zzsR, zz2]
theorem zi_alen (C : zzC p s m args c cc own nL D) {a t : Nat} (ha : a < S.2.1) (hk : zzk S a = t) (h1 : 1 ≤ t) (h2 : t < 6) (d : decode cc pc = .ok (.arraylength, 1)) {K : Int32 → Option β} (hF : zzlet (Int32.ofNat (zzn S a)) K = some out) (kk : ∀ x, K x = some out → zzB p l e R s m args below meth c nL D bs A Q cells slots S M hz (pc + 1) lv (.int x :: st)) : zzB p l e R s m args below meth c nL D bs A Q cells slots S M hz pc lv (.ref (bs + a) :: st) := by
  intro H locs ls hR hS hl
  obtain ⟨-, hcell⟩ := hR.arr ha hk h1 (by omega)
  exact W.alen (n := Int32.ofNat (zzn S a)) C.1 C.2.1 hcell ((C.2.2.2.2.2.2 t h1 h2).1 _ _) (by rw [arrV_size] <;> rfl) rfl rfl d (kk _ hF H locs ls hR hS hl)
theorem zz_cat (bs : Nat) (r : Option Nat) : (zzrf bs r).category = 1 := by cases r <;> rfl
theorem zi_getQ (C : zzC p s m args c cc own nL D) {ci index k N a : Nat} {Cn ref : String} {T : u_T} (hc : zzCls ci Cn T N) (hk : k < N) (hlink : Cond.fieldLink own index ref (T k).2.1 (T k).2.2.1 ∈ zzW) (href : ref = (T k).1) (ha : a < S.2.1) (hka : zzk S a = 10 + ci) (d : decode cc pc = .ok (.getfield index, 3)) (hty : ∀ (M : zzM) (bs a : Nat), zzval (zzty ci k) bs M a k = zzrf bs (zzR M a k)) {K : Option Nat → Option β} (hF : zzlet (zzR M a k) K = some out) (kk : ∀ r, K r = some out → zzB p l e R s m args below meth c nL D bs A Q cells slots S M hz (pc + 3) lv (zzrf bs r :: st)) : zzB p l e R s m args below meth c nL D bs A Q cells slots S M hz pc lv (.ref (bs + a) :: st) := fun H locs ls hR hS hl => zz_getW C hc hk hlink href ha hka d hR (by rw [hty]; exact kk _ hF H locs ls hR hS hl)
theorem zi_aload_nO (C : zzC p s m args c cc own nL D) {k : Fin 4} {i : Nat} {r : Option Nat} (d : decode cc pc = .ok (.aload_n k, 1)) (hi : (k : Nat) = i) (j : Nat) (hj : lv[j]? = some (i, zzrf bs r)) (kk : zzB p l e R s m args below meth c nL D bs A Q cells slots S M hz (pc + 1) lv (zzrf bs r :: st)) : zzB p l e R s m args below meth c nL D bs A Q cells slots S M hz pc lv st := fun H locs ls hR hS hl => (by cases r; exact lv_aload_nN C.1 C.2.1 d hi (lv_at hl j hj) (kk H locs ls hR hS hl); exact lv_aload_n C.1 C.2.1 d hi (lv_at hl j hj) (kk H locs ls hR hS hl))
theorem zi_aloadO (C : zzC p s m args c cc own nL D) {i : Nat} {r : Option Nat} (d : decode cc pc = .ok (.aload i, 2)) (j : Nat) (hj : lv[j]? = some (i, zzrf bs r)) (kk : zzB p l e R s m args below meth c nL D bs A Q cells slots S M hz (pc + 2) lv (zzrf bs r :: st)) : zzB p l e R s m args below meth c nL D bs A Q cells slots S M hz pc lv st := fun H locs ls hR hS hl => (by cases r; exact lv_aloadN C.1 C.2.1 d (lv_at hl j hj) (kk H locs ls hR hS hl); exact lv_aload C.1 C.2.1 d (lv_at hl j hj) (kk H locs ls hR hS hl))
theorem zi_astore_nO (C : zzC p s m args c cc own nL D) {k : Fin 4} {i : Nat} {r : Option Nat} (d : decode cc pc = .ok (.astore_n k, 1)) (hi : (k : Nat) = i) (hn : i < nL) (hv : (i, zzrf bs r) :: lv.filter (fun q => !(q.1 == i) && !(q.1 + 1 == i && q.2.category == 2)) = lv') (kk : zzB p l e R s m args below meth c nL D bs A Q cells slots S M hz (pc + 1) lv' st) : zzB p l e R s m args below meth c nL D bs A Q cells slots S M hz pc lv (zzrf bs r :: st) := fun H locs ls hR hS hl => (by cases r; exact lv_astore_nN C.1 C.2.1 d hi hl hn hv (fun ls' hl' => kk H locs ls' hR hS hl'); exact lv_astore_n C.1 C.2.1 d hi hl hn hv (fun ls' hl' => kk H locs ls' hR hS hl'))
theorem zi_astoreO (C : zzC p s m args c cc own nL D) {i : Nat} {r : Option Nat} (d : decode cc pc = .ok (.astore i, 2)) (hn : i < nL) (hv : (i, zzrf bs r) :: lv.filter (fun q => !(q.1 == i) && !(q.1 + 1 == i && q.2.category == 2)) = lv') (kk : zzB p l e R s m args below meth c nL D bs A Q cells slots S M hz (pc + 2) lv' st) : zzB p l e R s m args below meth c nL D bs A Q cells slots S M hz pc lv (zzrf bs r :: st) := fun H locs ls hR hS hl => (by cases r; exact lv_astoreN C.1 C.2.1 d hl hn hv (fun ls' hl' => kk H locs ls' hR hS hl'); exact lv_astore C.1 C.2.1 d hl hn hv (fun ls' hl' => kk H locs ls' hR hS hl'))
theorem zi_putO (C : zzC p s m args c cc own nL D) {ci index k N a : Nat} {Cn ref : String} {T : u_T} (hc : zzCls ci Cn T N) (hk : k < N) (hlink : Cond.fieldLink own index ref (T k).2.1 (T k).2.2.1 ∈ zzW) (href : ref = (T k).1) (hfin : (T k).2.2.2 = false ∨ ((T k).2.2.2 = true ∧ meth.name = "<init>" ∧ (T k).1 = own)) (ha : a < S.2.1) (hka : zzk S a = 10 + ci) (d : decode cc pc = .ok (.putfield index, 3)) (hty : (∃ n, zzty ci k = .object n) ∨ ∃ t, zzty ci k = .array t) {r : Option Nat} {K : zzM → Option β} (hF : zzlet (zzsR M a k r) K = some out) (kk : ∀ M1, K M1 = some out → zzB p l e R s m args below meth c nL D bs A Q cells slots S M1 hz (pc + 3) lv st) : zzB p l e R s m args below meth c nL D bs A Q cells slots S M hz pc lv (zzrf bs r :: .ref (bs + a) :: st) := by cases r; exact zi_putN C hc hk hlink href hfin ha hka d hty hF kk; exact zi_putR C hc hk hlink href hfin ha hka d hty hF kk
theorem zi_aald4Q (C : zzC p s m args c cc own nL D) {a : Nat} {i : Int32} (ha : a < S.2.1) (hk : zzk S a = 4) (d : decode cc pc = .ok (.aaload, 1)) {K : Option Nat → Option β} (hF : zzix S a i (zzlet (zzR M a i.toNatClampNeg) K) = some out) (kk : ∀ r, K r = some out → zzB p l e R s m args below meth c nL D bs A Q cells slots S M hz (pc + 1) lv (zzrf bs r :: st)) : zzB p l e R s m args below meth c nL D bs A Q cells slots S M hz pc lv (.int i :: .ref (bs + a) :: st) := by
  intro H locs ls hR hS hl
  obtain ⟨hi, hF⟩ := zzix_e hF
  exact zz_aald4 C ha hk d hi hR (kk _ hF H locs ls hR hS hl)
def zzcpok (S : zzS) (a0 : Nat) (sp : Int32) (a1 : Nat) (dp n : Int32) : Bool := decide (¬ sp < 0 ∧ ¬ dp < 0 ∧ ¬ n < 0 ∧ sp.toNatClampNeg + n.toNatClampNeg ≤ zzn S a0 ∧ dp.toNatClampNeg + n.toNatClampNeg ≤ zzn S a1)
def zzcpL (M : zzM) (a0 sp a1 dp n : Nat) : zzM := (M.1, (fun b => if b = a1 then va_cpy (M.2.1 a0) (M.2.1 a1) sp dp n else M.2.1 b), M.2.2)
def zzcpI (M : zzM) (a0 sp a1 dp n : Nat) : zzM := ((fun b => if b = a1 then va_cpy (M.1 a0) (M.1 a1) sp dp n else M.1 b), M.2.1, M.2.2)
theorem zi_acopyL (C : zzC p s m args c cc own nL D) {a0 a1 index : Nat} {sp dp n : Int32} (h0 : a0 < S.2.1) (k0 : zzk S a0 = 2) (h1 : a1 < S.2.1) (k1 : zzk S a1 = 2) (hlink : Cond.methodLink own index arraycopyName ∈ zzW) (hnat : Cond.native arraycopyName ∈ zzW) (hstat : Cond.static arraycopyName ∈ zzW) (hini : Cond.initialized "java/lang/System" ∈ zzW) (hframes : 1 ≤ R.frames) (hlocals : (st.map fun v => v.category).sum + (nativeFrameWords "java/lang/System" "arraycopy" 5 + 11) ≤ R.locals) (d : decode cc pc = .ok (.invokestatic index, 3)) {K : zzM → Option β} (hF : zzck (zzcpok S a0 sp a1 dp n) (zzlet (zzcpL M a0 sp.toNatClampNeg a1 dp.toNatClampNeg n.toNatClampNeg) K) = some out) (kk : ∀ M1, K M1 = some out → zzB p l e R s m args below meth c nL D bs A Q cells slots S M1 hz (pc + 3) lv st) : zzB p l e R s m args below meth c nL D bs A Q cells slots S M hz pc lv (.int n :: .int dp :: .ref (bs + a1) :: .int sp :: .ref (bs + a0) :: st) := by
  intro H locs ls hR hS hl
  obtain ⟨hok, hF⟩ := zzck_e hF
  obtain ⟨g1, g2, g3, g4, g5⟩ := of_decide_eq_true hok
  have nn : ∀ z : Int32, ¬ z < 0 → z.toInt = (z.toNatClampNeg : Int) := by
    intro z hz
    have hz0 : (0 : Int) ≤ z.toInt := by
      have := Int32.not_lt.mp hz
      simpa using Int32.le_iff_toInt_le.mp this
    show z.toInt = ((z.toInt.toNat : Nat) : Int)
    omega
  obtain ⟨-, hc0'⟩ := hR.arr h0 k0 (by decide) (by decide)
  obtain ⟨hA1, hc1'⟩ := hR.arr h1 k1 (by decide) (by decide)
  have hc0 : H[bs + a0]? = some (vp_cell (D.2.2 2) (zzn S a0, (.inr (.inl (M.2.1 a0))))) := by rw [hc0', zzel_2]; rfl
  have hc1 : H[bs + a1]? = some (vp_cell (D.2.2 2) (zzn S a1, (.inr (.inl (M.2.1 a1))))) := by rw [hc1', zzel_2]; rfl
  intro T hT X
  have hArr := (C.2.2.2.2.2.2 2 (by decide) (by decide)).1
  obtain ⟨-, kk0, hk0, cm0, hkk0⟩ := hArr (zzn S a0) (fun j => .long (M.2.1 a0 j))
  obtain ⟨-, kk1, hk1, cm1, hkk1⟩ := hArr (zzn S a1) (fun j => .long (M.2.1 a1 j))
  obtain ⟨vm', X', step⟩ := X.arraycopy C.1 C.2.2.2.1 (C.2.2.2.2.1 _ hlink) (C.2.2.2.2.1 _ hnat) (C.2.2.2.2.1 _ hstat) (C.2.2.2.2.1 _ hini) (src := bs + a0) (dst := bs + a1) (cs := vp_cell (D.2.2 2) (zzn S a0, (.inr (.inl (M.2.1 a0))))) (cd := vp_cell (D.2.2 2) (zzn S a1, (.inr (.inl (M.2.1 a1))))) (srcPos := sp) (destPos := dp) (n := n) (by rw [hT]; exact hc0) (by rw [hT]; exact hc1)
    (fun _ h => by cases h) (fun _ h => by cases h) (fun h => by cases h) (fun h => by cases h) hk0 hk1 hkk0 hkk1 (by decide) g1 g2 g3
    (by rw [nn sp g1, nn n g3]; show ¬ _ > ((arrV (D.2.2 2) (zzn S a0) (fun j => .long (M.2.1 a0 j))).slots.size : Int); rw [arrV_size]; omega)
    (by rw [nn dp g2, nn n g3]; show ¬ _ > ((arrV (D.2.2 2) (zzn S a1) (fun j => .long (M.2.1 a1 j))).slots.size : Int); rw [arrV_size]; omega)
    (fun vm₁ _ i hi => by
      have e : (vp_cell (D.2.2 2) (zzn S a0, (.inr (.inl (M.2.1 a0))))).slots.getD (sp.toNatClampNeg + i) .null = .long (M.2.1 a0 (sp.toNatClampNeg + i)) := by
        show (arrV (D.2.2 2) (zzn S a0) (fun j => .long (M.2.1 a0 j))).slots.getD _ _ = _
        rw [Array.getD_eq_getD_getElem?, arrV_read _ _ (by omega)]
        rfl
      refine ⟨?_, ?_⟩
      · rw [e]; rfl
      · rw [e]; exact trivial)
    (g := F0 m pc ls (.int n :: .int dp :: .ref (bs + a1) :: .int sp :: .ref (bs + a0) :: st)) rfl (by rw [C.2.2.1]; exact hl.1) (rest := st) rfl (by rw [C.2.1]; exact d) hframes (by show 2 * 0 + _ + _ ≤ _; omega)
  have e1 : copied (vp_cell (D.2.2 2) (zzn S a0, (.inr (.inl (M.2.1 a0))))) (vp_cell (D.2.2 2) (zzn S a1, (.inr (.inl (M.2.1 a1))))) sp dp n = vp_cell (D.2.2 2) (zzn S a1, (.inr (.inl (va_cpy (M.2.1 a0) (M.2.1 a1) sp.toNatClampNeg dp.toNatClampNeg n.toNatClampNeg)))) := va_copied (fun z => .long z) (D.2.2 2) (D.2.2 2) (M.2.1 a0) (M.2.1 a1) g4
  rw [e1] at X' step
  have hlt : bs + a1 < H.size := (Array.getElem?_eq_some_iff.mp hc1).1
  have oq : ∀ q : Nat, q ≠ bs + a1 → (H.setIfInBounds (bs + a1) (vp_cell (D.2.2 2) (zzn S a1, (.inr (.inl (va_cpy (M.2.1 a0) (M.2.1 a1) sp.toNatClampNeg dp.toNatClampNeg n.toNatClampNeg))))))[q]? = H[q]? := fun q hq => by simp [Array.getElem?_setIfInBounds, Ne.symm hq]
  obtain ⟨t, b1, b2⟩ := kk _ hF (H.setIfInBounds (bs + a1) (vp_cell (D.2.2 2) (zzn S a1, (.inr (.inl (va_cpy (M.2.1 a0) (M.2.1 a1) sp.toNatClampNeg dp.toNatClampNeg n.toNatClampNeg)))))) _ ls (hR.wr (a := a1) (M' := zzcpL M a0 sp.toNatClampNeg a1 dp.toNatClampNeg n.toNatClampNeg) (fun b hb => by simp [zzsame, zzcpL, hb]) (by simp) oq (zzRep.toArr k1 (by decide) (by
      rw [zzel_2]
      simp only [Array.getElem?_setIfInBounds, hlt, zzL, zzcpL, if_true]
      rfl))) ⟨by simp; exact hS.1, fun q w1 w2 => by
      rw [oq q (fun e => w2 (by rw [e]; exact hA1))]
      exact hS.2.1 q w1 w2, fun q hq => by
      rcases List.mem_append.mp hq with h | h
      · exact hS.2.2 q h
      · obtain ⟨z, -, hz⟩ := List.mem_map.mp h
        rw [← hz]
        exact hA1⟩ hl _ (by rw [← hT]; rfl) X'
  exact ⟨t, step t b1, b2⟩
theorem zi_acopyI (C : zzC p s m args c cc own nL D) {a0 a1 index : Nat} {sp dp n : Int32} (h0 : a0 < S.2.1) (k0 : zzk S a0 = 1) (h1 : a1 < S.2.1) (k1 : zzk S a1 = 1) (hlink : Cond.methodLink own index arraycopyName ∈ zzW) (hnat : Cond.native arraycopyName ∈ zzW) (hstat : Cond.static arraycopyName ∈ zzW) (hini : Cond.initialized "java/lang/System" ∈ zzW) (hframes : 1 ≤ R.frames) (hlocals : (st.map fun v => v.category).sum + (nativeFrameWords "java/lang/System" "arraycopy" 5 + 11) ≤ R.locals) (d : decode cc pc = .ok (.invokestatic index, 3)) {K : zzM → Option β} (hF : zzck (zzcpok S a0 sp a1 dp n) (zzlet (zzcpI M a0 sp.toNatClampNeg a1 dp.toNatClampNeg n.toNatClampNeg) K) = some out) (kk : ∀ M1, K M1 = some out → zzB p l e R s m args below meth c nL D bs A Q cells slots S M1 hz (pc + 3) lv st) : zzB p l e R s m args below meth c nL D bs A Q cells slots S M hz pc lv (.int n :: .int dp :: .ref (bs + a1) :: .int sp :: .ref (bs + a0) :: st) := by
  intro H locs ls hR hS hl
  obtain ⟨hok, hF⟩ := zzck_e hF
  obtain ⟨g1, g2, g3, g4, g5⟩ := of_decide_eq_true hok
  have nn : ∀ z : Int32, ¬ z < 0 → z.toInt = (z.toNatClampNeg : Int) := by
    intro z hz
    have hz0 : (0 : Int) ≤ z.toInt := by
      have := Int32.not_lt.mp hz
      simpa using Int32.le_iff_toInt_le.mp this
    show z.toInt = ((z.toInt.toNat : Nat) : Int)
    omega
  obtain ⟨-, hc0'⟩ := hR.arr h0 k0 (by decide) (by decide)
  obtain ⟨hA1, hc1'⟩ := hR.arr h1 k1 (by decide) (by decide)
  have hc0 : H[bs + a0]? = some (vp_cell (D.2.2 1) (zzn S a0, (.inl (M.1 a0)))) := by rw [hc0', zzel_1]; rfl
  have hc1 : H[bs + a1]? = some (vp_cell (D.2.2 1) (zzn S a1, (.inl (M.1 a1)))) := by rw [hc1', zzel_1]; rfl
  intro T hT X
  have hArr := (C.2.2.2.2.2.2 1 (by decide) (by decide)).1
  obtain ⟨-, kk0, hk0, cm0, hkk0⟩ := hArr (zzn S a0) (fun j => .int (M.1 a0 j))
  obtain ⟨-, kk1, hk1, cm1, hkk1⟩ := hArr (zzn S a1) (fun j => .int (M.1 a1 j))
  obtain ⟨vm', X', step⟩ := X.arraycopy C.1 C.2.2.2.1 (C.2.2.2.2.1 _ hlink) (C.2.2.2.2.1 _ hnat) (C.2.2.2.2.1 _ hstat) (C.2.2.2.2.1 _ hini) (src := bs + a0) (dst := bs + a1) (cs := vp_cell (D.2.2 1) (zzn S a0, (.inl (M.1 a0)))) (cd := vp_cell (D.2.2 1) (zzn S a1, (.inl (M.1 a1)))) (srcPos := sp) (destPos := dp) (n := n) (by rw [hT]; exact hc0) (by rw [hT]; exact hc1)
    (fun _ h => by cases h) (fun _ h => by cases h) (fun h => by cases h) (fun h => by cases h) hk0 hk1 hkk0 hkk1 (by decide) g1 g2 g3
    (by rw [nn sp g1, nn n g3]; show ¬ _ > ((arrV (D.2.2 1) (zzn S a0) (fun j => .int (M.1 a0 j))).slots.size : Int); rw [arrV_size]; omega)
    (by rw [nn dp g2, nn n g3]; show ¬ _ > ((arrV (D.2.2 1) (zzn S a1) (fun j => .int (M.1 a1 j))).slots.size : Int); rw [arrV_size]; omega)
    (fun vm₁ _ i hi => by
      have e : (vp_cell (D.2.2 1) (zzn S a0, (.inl (M.1 a0)))).slots.getD (sp.toNatClampNeg + i) .null = .int (M.1 a0 (sp.toNatClampNeg + i)) := by
        show (arrV (D.2.2 1) (zzn S a0) (fun j => .int (M.1 a0 j))).slots.getD _ _ = _
        rw [Array.getD_eq_getD_getElem?, arrV_read _ _ (by omega)]
        rfl
      refine ⟨?_, ?_⟩
      · rw [e]; rfl
      · rw [e]; exact trivial)
    (g := F0 m pc ls (.int n :: .int dp :: .ref (bs + a1) :: .int sp :: .ref (bs + a0) :: st)) rfl (by rw [C.2.2.1]; exact hl.1) (rest := st) rfl (by rw [C.2.1]; exact d) hframes (by show 2 * 0 + _ + _ ≤ _; omega)
  have e1 : copied (vp_cell (D.2.2 1) (zzn S a0, (.inl (M.1 a0)))) (vp_cell (D.2.2 1) (zzn S a1, (.inl (M.1 a1)))) sp dp n = vp_cell (D.2.2 1) (zzn S a1, (.inl (va_cpy (M.1 a0) (M.1 a1) sp.toNatClampNeg dp.toNatClampNeg n.toNatClampNeg))) := va_copied (fun z => .int z) (D.2.2 1) (D.2.2 1) (M.1 a0) (M.1 a1) g4
  rw [e1] at X' step
  have hlt : bs + a1 < H.size := (Array.getElem?_eq_some_iff.mp hc1).1
  have oq : ∀ q : Nat, q ≠ bs + a1 → (H.setIfInBounds (bs + a1) (vp_cell (D.2.2 1) (zzn S a1, (.inl (va_cpy (M.1 a0) (M.1 a1) sp.toNatClampNeg dp.toNatClampNeg n.toNatClampNeg)))))[q]? = H[q]? := fun q hq => by simp [Array.getElem?_setIfInBounds, Ne.symm hq]
  obtain ⟨t, b1, b2⟩ := kk _ hF (H.setIfInBounds (bs + a1) (vp_cell (D.2.2 1) (zzn S a1, (.inl (va_cpy (M.1 a0) (M.1 a1) sp.toNatClampNeg dp.toNatClampNeg n.toNatClampNeg))))) _ ls (hR.wr (a := a1) (M' := zzcpI M a0 sp.toNatClampNeg a1 dp.toNatClampNeg n.toNatClampNeg) (fun b hb => by simp [zzsame, zzcpI, hb]) (by simp) oq (zzRep.toArr k1 (by decide) (by
      rw [zzel_1]
      simp only [Array.getElem?_setIfInBounds, hlt, zzI, zzcpI, if_true]
      rfl))) ⟨by simp; exact hS.1, fun q w1 w2 => by
      rw [oq q (fun e => w2 (by rw [e]; exact hA1))]
      exact hS.2.1 q w1 w2, fun q hq => by
      rcases List.mem_append.mp hq with h | h
      · exact hS.2.2 q h
      · obtain ⟨z, -, hz⟩ := List.mem_map.mp h
        rw [← hz]
        exact hA1⟩ hl _ (by rw [← hT]; rfl) X'
  exact ⟨t, step t b1, b2⟩
theorem zi_iret (C : zzC p s m args c cc own nL D) {S2 : zzS} {M2 : zzM} {hz2 : Nat} {res : Option Value} (hlocks : meth.locks = false) {x : Int32} (hr : meth.sig.returnType = some .int) (d : decode cc pc = .ok (.ireturn, 1)) (hres : res = some (.int x)) (hS2 : S2 = S) (hM2 : M2 = M) (hh : hz2 = hz) : zzB p l e R s m args below meth c nL D bs A (MQ below (zzQc D bs A S2 M2 hz2 res) args s cells slots A) cells slots S M hz pc lv [.int x] := by
  intro H locs ls hR hS hl
  subst hres; subst hS2; subst hM2; subst hh
  exact W.iret C.1 C.2.1 hr (fun t ht hW => ⟨rfl, by rw [ht]; exact hR, hS.F ht⟩) hS.2.2 d hlocks
theorem zi_zret (C : zzC p s m args c cc own nL D) {S2 : zzS} {M2 : zzM} {hz2 : Nat} {res : Option Value} (hlocks : meth.locks = false) {x : Int32} {ty : FieldType} (hr : meth.sig.returnType = some ty) (hn : narrow ty (.int x) = .int x) (d : decode cc pc = .ok (.ireturn, 1)) (hres : res = some (.int x)) (hS2 : S2 = S) (hM2 : M2 = M) (hh : hz2 = hz) : zzB p l e R s m args below meth c nL D bs A (MQ below (zzQc D bs A S2 M2 hz2 res) args s cells slots A) cells slots S M hz pc lv [.int x] := by
  intro H locs ls hR hS hl
  subst hres; subst hS2; subst hM2; subst hh
  exact W.zret C.1 C.2.1 hr hn (fun t ht hW => ⟨rfl, by rw [ht]; exact hR, hS.F ht⟩) hS.2.2 d hlocks
theorem zi_lret (C : zzC p s m args c cc own nL D) {S2 : zzS} {M2 : zzM} {hz2 : Nat} {res : Option Value} (hlocks : meth.locks = false) {x : Int64} (hr : meth.sig.returnType = some .long) (d : decode cc pc = .ok (.lreturn, 1)) (hres : res = some (.long x)) (hS2 : S2 = S) (hM2 : M2 = M) (hh : hz2 = hz) : zzB p l e R s m args below meth c nL D bs A (MQ below (zzQc D bs A S2 M2 hz2 res) args s cells slots A) cells slots S M hz pc lv [.long x] := by
  intro H locs ls hR hS hl
  subst hres; subst hS2; subst hM2; subst hh
  exact W.lret C.1 C.2.1 hr (fun t ht hW => ⟨rfl, by rw [ht]; exact hR, hS.F ht⟩) hS.2.2 d hlocks
theorem zi_vret (C : zzC p s m args c cc own nL D) {S2 : zzS} {M2 : zzM} {hz2 : Nat} {res : Option Value} (hlocks : meth.locks = false) (hr : meth.sig.returnType = none) (d : decode cc pc = .ok (.return_, 1)) (hres : res = none) (hS2 : S2 = S) (hM2 : M2 = M) (hh : hz2 = hz) : zzB p l e R s m args below meth c nL D bs A (MQ below (zzQc D bs A S2 M2 hz2 res) args s cells slots A) cells slots S M hz pc lv [] := by
  intro H locs ls hR hS hl
  subst hres; subst hS2; subst hM2; subst hh
  exact W.vret C.1 C.2.1 hr (fun t ht hW => ⟨rfl, by rw [ht]; exact hR, hS.F ht⟩) hS.2.2 d hlocks
theorem zi_aret (C : zzC p s m args c cc own nL D) {S2 : zzS} {M2 : zzM} {hz2 : Nat} {res : Option Value} (hlocks : meth.locks = false) {v : Value} {rt : FieldType} (hr : meth.sig.returnType = some rt) (hrt : (∃ n, rt = .object n) ∨ ∃ t, rt = .array t) (hv : v = .null ∨ ∃ a, v = .ref a) (d : decode cc pc = .ok (.areturn, 1)) (hres : res = some v) (hS2 : S2 = S) (hM2 : M2 = M) (hh : hz2 = hz) : zzB p l e R s m args below meth c nL D bs A (MQ below (zzQc D bs A S2 M2 hz2 res) args s cells slots A) cells slots S M hz pc lv [v] := by
  intro H locs ls hR hS hl
  subst hres; subst hS2; subst hM2; subst hh
  exact W.aret C.1 C.2.1 hr hrt hv (fun t ht hW => ⟨rfl, by rw [ht]; exact hR, hS.F ht⟩) hS.2.2 d hlocks
theorem zz_after {S2 : zzS} {M2 : zzM} {hz2 mc ms : Nat} {res : Option Value} {a : Array Value} {st0 : List Value} {H : Heap} {locs : List Loc} {ls : Array Slot} (hr : va_Run p l e R s m args below meth c H locs cells slots mc ms (F0 m pc ls st0) st (zzQc D bs A S2 M2 hz2 res a) A) (hS : va_S A s.heap H locs) (hl : lv_has ls nL lv) (kk : zzB p l e R s m args below meth c nL D bs A Q (cells + mc) (slots + ms) S2 M2 hz2 (pc + 3) lv (res.toList ++ st)) : W p l e R s m args below meth c H locs cells slots Q (F0 m pc ls st0) := by
  intro T hT X
  obtain ⟨v, st₀, t, T', L, h0, X', hL, e1, e2, ⟨hv, hrep, hz', hk⟩, stp⟩ := hr T hT X
  cases hv
  rw [h0] at hz' hk
  obtain ⟨t2, a1, b1⟩ := kk T'.heap (locs ++ L) ls (by rw [e1]; exact hrep) ⟨Nat.le_trans hS.1 (by rw [e1]; exact hz'), fun q h1 h2 => by rw [e1, hk q (Nat.lt_of_lt_of_le h1 hS.1) h2]; exact hS.2.1 q h1 h2, fun q hq => by
      rcases List.mem_append.mp hq with h | h
      · exact hS.2.2 q h
      · exact hL q h⟩ hl T' rfl X'
  exact ⟨t2, stp t2 a1, b1⟩
theorem zz_good {y : MethodName} {bytes : ByteArray} {maxL : Nat} {ret : Option FieldType} (h : Cond.code y bytes maxL ret ∈ zzW) : GoodIn zzW (Cond.code y bytes maxL ret :: zzW) := fun w hw => by
  rcases List.mem_cons.mp hw with rfl | hw
  · exact ⟨h, Or.inl rfl⟩
  · exact ⟨hw, zzW_good w hw⟩
theorem zi_callV (C : zzC p s m args c cc own nL D) {y : MethodName} {bytes : ByteArray} {maxL index n fr lo mc ms : Nat} {S2 : zzS} {M2 : zzM} {hz2 : Nat} {res : Option Value} {ret : Option FieldType} {As : List Value} {ci N b : Nat} {T : u_T} (hM : Met l y (Cond.code y bytes maxL ret :: zzW) { frames := fr, cells := mc, slots := ms, locals := lo } (zzPc D bs A S M hz (Value.ref (bs + b) :: As)) (zzQc D bs A S2 M2 hz2 res) mc ms A) (hcode : Cond.code y bytes maxL ret ∈ zzW) (hini : Cond.initialized y.cls ∈ zzW) (hd : y.cls ≠ "java/lang/invoke/MethodHandle" ∧ y.cls ≠ "java/lang/invoke/VarHandle" ∧ (parseMethodDescriptor y.desc).map (fun d => d.parameters.length) = some n) (hRm : fr + 1 ≤ R.frames ∧ 8 + (maxL + 11) + lo ≤ R.locals) (hn : As.length = n) (hw : (st.map fun v => v.category).sum ≤ 8) (hf : cells + mc ≤ R.cells ∧ slots + ms ≤ R.slots) (hlink : Cond.methodLink own index y ∈ zzW) (hinst : Cond.instanceMethod y ∈ zzW) (hsel : Cond.selects y.cls y y ∈ zzW) (hcl : vwCl[ci]? = some (y.cls, T, N)) (ha : b < S.2.1) (hk : zzk S b = 10 + ci) (d : decode cc pc = .ok (.invokevirtual index, 3)) (kk : zzB p l e R s m args below meth c nL D bs A Q (cells + mc) (slots + ms) S2 M2 hz2 (pc + 3) lv (res.toList ++ st)) : zzB p l e R s m args below meth c nL D bs A Q cells slots S M hz pc lv (As.reverse ++ .ref (bs + b) :: st) := by
  intro H locs ls hR hS hl
  obtain ⟨-, cell, g1, g2, g3, -⟩ := hR.obj ha hk hcl
  have hfc := (C.2.2.2.2.2.1 ci _ hcl).2.1
  refine zz_after (va_runV (n := n) (bytes := bytes) (maxL := maxL) (ret := ret) (C := y.cls) (As := As) (rest := st) (nL := nL) (Ts := zzW) ⟨C.1, C.2.1, C.2.2.1, C.2.2.2.1, C.2.2.2.2.1⟩ hM ⟨callB_of (ws' := zzW) n C.2.2.2.2.1 (zz_good hcode) rfl rfl rfl (C.2.2.2.2.1 _ hini) (C.2.2.2.2.1 _ hlink) hd hRm, C.2.2.2.2.1 _ hinst, C.2.2.2.2.1 _ hsel⟩ ⟨zzPc.blind, ⟨cell, g1, by rw [g3]; rfl, by rw [g2]; exact hfc⟩, fun U hU hW => ⟨rfl, by rw [hU]; exact hR, C.2.2.2.2.2.moved hW.alike⟩⟩ rfl hn hl.1 rfl (lv_room hw) d hf) hS hl kk
theorem zi_callS (C : zzC p s m args c cc own nL D) {y : MethodName} {bytes : ByteArray} {maxL index n fr lo mc ms : Nat} {S2 : zzS} {M2 : zzM} {hz2 : Nat} {res : Option Value} {ret : Option FieldType} {As : List Value} (hM : Met l y (Cond.code y bytes maxL ret :: zzW) { frames := fr, cells := mc, slots := ms, locals := lo } (zzPc D bs A S M hz As) (zzQc D bs A S2 M2 hz2 res) mc ms A) (hcode : Cond.code y bytes maxL ret ∈ zzW) (hini : Cond.initialized y.cls ∈ zzW) (hd : y.cls ≠ "java/lang/invoke/MethodHandle" ∧ y.cls ≠ "java/lang/invoke/VarHandle" ∧ (parseMethodDescriptor y.desc).map (fun d => d.parameters.length) = some n) (hRm : fr + 1 ≤ R.frames ∧ 8 + (maxL + 11) + lo ≤ R.locals) (hn : As.length = n) (hw : (st.map fun v => v.category).sum ≤ 8) (hf : cells + mc ≤ R.cells ∧ slots + ms ≤ R.slots) (hlink : Cond.methodLink own index y ∈ zzW) (hst : Cond.static y ∈ zzW) (d : decode cc pc = .ok (.invokestatic index, 3)) (kk : zzB p l e R s m args below meth c nL D bs A Q (cells + mc) (slots + ms) S2 M2 hz2 (pc + 3) lv (res.toList ++ st)) : zzB p l e R s m args below meth c nL D bs A Q cells slots S M hz pc lv (As.reverse ++ st) := by
  intro H locs ls hR hS hl
  refine zz_after (va_runS (n := n) (bytes := bytes) (maxL := maxL) (ret := ret) (As := As) (rest := st) (nL := nL) (Ts := zzW) ⟨C.1, C.2.1, C.2.2.1, C.2.2.2.1, C.2.2.2.2.1⟩ hM ⟨callB_of (ws' := zzW) n C.2.2.2.2.1 (zz_good hcode) rfl rfl rfl (C.2.2.2.2.1 _ hini) (C.2.2.2.2.1 _ hlink) hd hRm, C.2.2.2.2.1 _ hst⟩ ⟨zzPc.blind, fun U hU hW => ⟨rfl, by rw [hU]; exact hR, C.2.2.2.2.2.moved hW.alike⟩⟩ rfl hn hl.1 rfl (lv_room hw) d hf) hS hl kk
theorem zi_callI (C : zzC p s m args c cc own nL D) {y : MethodName} {bytes : ByteArray} {maxL index n fr lo mc ms : Nat} {S2 : zzS} {M2 : zzM} {hz2 : Nat} {As : List Value} {b : Nat} (hM : Met l y (Cond.code y bytes maxL none :: zzW) { frames := fr, cells := mc, slots := ms, locals := lo } (zzPc D bs A S M hz (Value.ref (bs + b) :: As)) (zzQc D bs A S2 M2 hz2 none) mc ms A) (hcode : Cond.code y bytes maxL none ∈ zzW) (hini : Cond.initialized y.cls ∈ zzW) (hd : y.cls ≠ "java/lang/invoke/MethodHandle" ∧ y.cls ≠ "java/lang/invoke/VarHandle" ∧ (parseMethodDescriptor y.desc).map (fun d => d.parameters.length) = some n) (hRm : fr + 1 ≤ R.frames ∧ 8 + (maxL + 11) + lo ≤ R.locals) (hn : As.length = n) (hw : (st.map fun v => v.category).sum ≤ 8) (hf : cells + mc ≤ R.cells ∧ slots + ms ≤ R.slots) (hlink : Cond.methodLink own index y ∈ zzW) (hinst : Cond.instanceMethod y ∈ zzW) (hnm : y.name = "<init>") (d : decode cc pc = .ok (.invokespecial index, 3)) (kk : zzB p l e R s m args below meth c nL D bs A Q (cells + mc) (slots + ms) S2 M2 hz2 (pc + 3) lv st) : zzB p l e R s m args below meth c nL D bs A Q cells slots S M hz pc lv (As.reverse ++ .ref (bs + b) :: st) := by
  intro H locs ls hR hS hl
  refine zz_after (res := none) (va_runI (n := n) (bytes := bytes) (maxL := maxL) (As := As) (rest := st) (nL := nL) (Ts := zzW) ⟨C.1, C.2.1, C.2.2.1, C.2.2.2.1, C.2.2.2.2.1⟩ hM ⟨callB_of (ws' := zzW) n C.2.2.2.2.1 (zz_good hcode) rfl rfl rfl (C.2.2.2.2.1 _ hini) (C.2.2.2.2.1 _ hlink) hd hRm, hnm, C.2.2.2.2.1 _ hinst⟩ ⟨zzPc.blind, fun U hU hW => ⟨rfl, by rw [hU]; exact hR, C.2.2.2.2.2.moved hW.alike⟩⟩ rfl hn hl.1 rfl (lv_room hw) d hf) hS hl kk
theorem zi_objInit (C : zzC p s m args c cc own nL D) {index a : Nat} (hlink : Cond.methodLink own index Lib.objectInit ∈ zzW) (hinst : Cond.instanceMethod Lib.objectInit ∈ zzW) (hcode : Cond.code Lib.objectInit ⟨#[0xb1]⟩ 1 none ∈ zzW) (d : decode cc pc = .ok (.invokespecial index, 3)) (hf : 1 ≤ R.frames) (hlo : (st.map fun v => v.category).sum + 12 ≤ R.locals) (kk : zzB p l e R s m args below meth c nL D bs A Q cells slots S M hz (pc + 3) lv st) : zzB p l e R s m args below meth c nL D bs A Q cells slots S M hz pc lv (.ref a :: st) := by
  intro H locs ls hR hS hl
  exact W.objInit C.1 C.2.1 C.2.2.2.1 (C.2.2.2.2.1 _ hlink) (C.2.2.2.2.1 _ hinst) (C.2.2.2.2.1 _ hcode) rfl (by rw [C.2.2.1]; exact hl.1) rfl d hf (by show 2 * 0 + _ + 12 ≤ _; omega) (kk H locs ls hR hS hl)
theorem zz_sub (ks : List Nat) (h : lv_pick lv ks = lv') (k : zzB p l e R s m args below meth c nL D bs A Q cells slots S M hz pc lv' st) : zzB p l e R s m args below meth c nL D bs A Q cells slots S M hz pc lv st := fun H locs ls hR hS hl => k H locs ls hR hS (lv_sub hl ks h)
theorem zz_eq {st' : List Value} (h1 : lv = lv') (h2 : st = st') (k : zzB p l e R s m args below meth c nL D bs A Q cells slots S M hz pc lv' st') : zzB p l e R s m args below meth c nL D bs A Q cells slots S M hz pc lv st := by subst h1; subst h2; exact k
theorem zi_callV_i (C : zzC p s m args c cc own nL D) {y : MethodName} {bytes : ByteArray} {maxL index n fr lo : Nat} {M2 : zzM} {ret : Option FieldType} {As stk : List Value} {r : Int32} {ci N b : Nat} {T : u_T} (hM : Met l y (Cond.code y bytes maxL ret :: zzW) { frames := fr, cells := 0, slots := 0, locals := lo } (zzPc D bs A S M hz (Value.ref (bs + b) :: As)) (zzQc D bs A S M2 hz (some (.int r))) 0 0 A) (hcode : Cond.code y bytes maxL ret ∈ zzW) (hini : Cond.initialized y.cls ∈ zzW) (hd : y.cls ≠ "java/lang/invoke/MethodHandle" ∧ y.cls ≠ "java/lang/invoke/VarHandle" ∧ (parseMethodDescriptor y.desc).map (fun d => d.parameters.length) = some n) (hRm : fr + 1 ≤ R.frames ∧ 8 + (maxL + 11) + lo ≤ R.locals) (hn : As.length = n) (hw : (st.map fun v => v.category).sum ≤ 8) (hf : cells + 0 ≤ R.cells ∧ slots + 0 ≤ R.slots) (hlink : Cond.methodLink own index y ∈ zzW) (hinst : Cond.instanceMethod y ∈ zzW) (hsel : Cond.selects y.cls y y ∈ zzW) (hcl : vwCl[ci]? = some (y.cls, T, N)) (ha : b < S.2.1) (hk : zzk S b = 10 + ci) (hstk : stk = As.reverse ++ .ref (bs + b) :: st) (d : decode cc pc = .ok (.invokevirtual index, 3)) (kk : zzB p l e R s m args below meth c nL D bs A Q cells slots S M2 hz (pc + 3) lv (.int r :: st)) : zzB p l e R s m args below meth c nL D bs A Q cells slots S M hz pc lv stk := by
  subst hstk
  exact zi_callV C hM hcode hini hd hRm hn hw hf hlink hinst hsel hcl ha hk d kk
theorem zi_callS_i (C : zzC p s m args c cc own nL D) {y : MethodName} {bytes : ByteArray} {maxL index n fr lo : Nat} {M2 : zzM} {ret : Option FieldType} {As stk : List Value} {r : Int32} (hM : Met l y (Cond.code y bytes maxL ret :: zzW) { frames := fr, cells := 0, slots := 0, locals := lo } (zzPc D bs A S M hz As) (zzQc D bs A S M2 hz (some (.int r))) 0 0 A) (hcode : Cond.code y bytes maxL ret ∈ zzW) (hini : Cond.initialized y.cls ∈ zzW) (hd : y.cls ≠ "java/lang/invoke/MethodHandle" ∧ y.cls ≠ "java/lang/invoke/VarHandle" ∧ (parseMethodDescriptor y.desc).map (fun d => d.parameters.length) = some n) (hRm : fr + 1 ≤ R.frames ∧ 8 + (maxL + 11) + lo ≤ R.locals) (hn : As.length = n) (hw : (st.map fun v => v.category).sum ≤ 8) (hf : cells + 0 ≤ R.cells ∧ slots + 0 ≤ R.slots) (hlink : Cond.methodLink own index y ∈ zzW) (hst : Cond.static y ∈ zzW) (hstk : stk = As.reverse ++ st) (d : decode cc pc = .ok (.invokestatic index, 3)) (kk : zzB p l e R s m args below meth c nL D bs A Q cells slots S M2 hz (pc + 3) lv (.int r :: st)) : zzB p l e R s m args below meth c nL D bs A Q cells slots S M hz pc lv stk := by
  subst hstk
  exact zi_callS C hM hcode hini hd hRm hn hw hf hlink hst d kk
theorem zi_callV_l (C : zzC p s m args c cc own nL D) {y : MethodName} {bytes : ByteArray} {maxL index n fr lo : Nat} {M2 : zzM} {ret : Option FieldType} {As stk : List Value} {r : Int64} {ci N b : Nat} {T : u_T} (hM : Met l y (Cond.code y bytes maxL ret :: zzW) { frames := fr, cells := 0, slots := 0, locals := lo } (zzPc D bs A S M hz (Value.ref (bs + b) :: As)) (zzQc D bs A S M2 hz (some (.long r))) 0 0 A) (hcode : Cond.code y bytes maxL ret ∈ zzW) (hini : Cond.initialized y.cls ∈ zzW) (hd : y.cls ≠ "java/lang/invoke/MethodHandle" ∧ y.cls ≠ "java/lang/invoke/VarHandle" ∧ (parseMethodDescriptor y.desc).map (fun d => d.parameters.length) = some n) (hRm : fr + 1 ≤ R.frames ∧ 8 + (maxL + 11) + lo ≤ R.locals) (hn : As.length = n) (hw : (st.map fun v => v.category).sum ≤ 8) (hf : cells + 0 ≤ R.cells ∧ slots + 0 ≤ R.slots) (hlink : Cond.methodLink own index y ∈ zzW) (hinst : Cond.instanceMethod y ∈ zzW) (hsel : Cond.selects y.cls y y ∈ zzW) (hcl : vwCl[ci]? = some (y.cls, T, N)) (ha : b < S.2.1) (hk : zzk S b = 10 + ci) (hstk : stk = As.reverse ++ .ref (bs + b) :: st) (d : decode cc pc = .ok (.invokevirtual index, 3)) (kk : zzB p l e R s m args below meth c nL D bs A Q cells slots S M2 hz (pc + 3) lv (.long r :: st)) : zzB p l e R s m args below meth c nL D bs A Q cells slots S M hz pc lv stk := by
  subst hstk
  exact zi_callV C hM hcode hini hd hRm hn hw hf hlink hinst hsel hcl ha hk d kk
theorem zi_callS_l (C : zzC p s m args c cc own nL D) {y : MethodName} {bytes : ByteArray} {maxL index n fr lo : Nat} {M2 : zzM} {ret : Option FieldType} {As stk : List Value} {r : Int64} (hM : Met l y (Cond.code y bytes maxL ret :: zzW) { frames := fr, cells := 0, slots := 0, locals := lo } (zzPc D bs A S M hz As) (zzQc D bs A S M2 hz (some (.long r))) 0 0 A) (hcode : Cond.code y bytes maxL ret ∈ zzW) (hini : Cond.initialized y.cls ∈ zzW) (hd : y.cls ≠ "java/lang/invoke/MethodHandle" ∧ y.cls ≠ "java/lang/invoke/VarHandle" ∧ (parseMethodDescriptor y.desc).map (fun d => d.parameters.length) = some n) (hRm : fr + 1 ≤ R.frames ∧ 8 + (maxL + 11) + lo ≤ R.locals) (hn : As.length = n) (hw : (st.map fun v => v.category).sum ≤ 8) (hf : cells + 0 ≤ R.cells ∧ slots + 0 ≤ R.slots) (hlink : Cond.methodLink own index y ∈ zzW) (hst : Cond.static y ∈ zzW) (hstk : stk = As.reverse ++ st) (d : decode cc pc = .ok (.invokestatic index, 3)) (kk : zzB p l e R s m args below meth c nL D bs A Q cells slots S M2 hz (pc + 3) lv (.long r :: st)) : zzB p l e R s m args below meth c nL D bs A Q cells slots S M hz pc lv stk := by
  subst hstk
  exact zi_callS C hM hcode hini hd hRm hn hw hf hlink hst d kk
theorem zi_callV_r (C : zzC p s m args c cc own nL D) {y : MethodName} {bytes : ByteArray} {maxL index n fr lo : Nat} {M2 : zzM} {ret : Option FieldType} {As stk : List Value} {r : Option Nat} {ci N b : Nat} {T : u_T} (hM : Met l y (Cond.code y bytes maxL ret :: zzW) { frames := fr, cells := 0, slots := 0, locals := lo } (zzPc D bs A S M hz (Value.ref (bs + b) :: As)) (zzQc D bs A S M2 hz (some (zzrf bs r))) 0 0 A) (hcode : Cond.code y bytes maxL ret ∈ zzW) (hini : Cond.initialized y.cls ∈ zzW) (hd : y.cls ≠ "java/lang/invoke/MethodHandle" ∧ y.cls ≠ "java/lang/invoke/VarHandle" ∧ (parseMethodDescriptor y.desc).map (fun d => d.parameters.length) = some n) (hRm : fr + 1 ≤ R.frames ∧ 8 + (maxL + 11) + lo ≤ R.locals) (hn : As.length = n) (hw : (st.map fun v => v.category).sum ≤ 8) (hf : cells + 0 ≤ R.cells ∧ slots + 0 ≤ R.slots) (hlink : Cond.methodLink own index y ∈ zzW) (hinst : Cond.instanceMethod y ∈ zzW) (hsel : Cond.selects y.cls y y ∈ zzW) (hcl : vwCl[ci]? = some (y.cls, T, N)) (ha : b < S.2.1) (hk : zzk S b = 10 + ci) (hstk : stk = As.reverse ++ .ref (bs + b) :: st) (d : decode cc pc = .ok (.invokevirtual index, 3)) (kk : zzB p l e R s m args below meth c nL D bs A Q cells slots S M2 hz (pc + 3) lv (zzrf bs r :: st)) : zzB p l e R s m args below meth c nL D bs A Q cells slots S M hz pc lv stk := by
  subst hstk
  exact zi_callV C hM hcode hini hd hRm hn hw hf hlink hinst hsel hcl ha hk d kk
theorem zi_callS_r (C : zzC p s m args c cc own nL D) {y : MethodName} {bytes : ByteArray} {maxL index n fr lo : Nat} {M2 : zzM} {ret : Option FieldType} {As stk : List Value} {r : Option Nat} (hM : Met l y (Cond.code y bytes maxL ret :: zzW) { frames := fr, cells := 0, slots := 0, locals := lo } (zzPc D bs A S M hz As) (zzQc D bs A S M2 hz (some (zzrf bs r))) 0 0 A) (hcode : Cond.code y bytes maxL ret ∈ zzW) (hini : Cond.initialized y.cls ∈ zzW) (hd : y.cls ≠ "java/lang/invoke/MethodHandle" ∧ y.cls ≠ "java/lang/invoke/VarHandle" ∧ (parseMethodDescriptor y.desc).map (fun d => d.parameters.length) = some n) (hRm : fr + 1 ≤ R.frames ∧ 8 + (maxL + 11) + lo ≤ R.locals) (hn : As.length = n) (hw : (st.map fun v => v.category).sum ≤ 8) (hf : cells + 0 ≤ R.cells ∧ slots + 0 ≤ R.slots) (hlink : Cond.methodLink own index y ∈ zzW) (hst : Cond.static y ∈ zzW) (hstk : stk = As.reverse ++ st) (d : decode cc pc = .ok (.invokestatic index, 3)) (kk : zzB p l e R s m args below meth c nL D bs A Q cells slots S M2 hz (pc + 3) lv (zzrf bs r :: st)) : zzB p l e R s m args below meth c nL D bs A Q cells slots S M hz pc lv stk := by
  subst hstk
  exact zi_callS C hM hcode hini hd hRm hn hw hf hlink hst d kk
theorem zi_callV_v (C : zzC p s m args c cc own nL D) {y : MethodName} {bytes : ByteArray} {maxL index n fr lo : Nat} {M2 : zzM} {ret : Option FieldType} {As stk : List Value}  {ci N b : Nat} {T : u_T} (hM : Met l y (Cond.code y bytes maxL ret :: zzW) { frames := fr, cells := 0, slots := 0, locals := lo } (zzPc D bs A S M hz (Value.ref (bs + b) :: As)) (zzQc D bs A S M2 hz none) 0 0 A) (hcode : Cond.code y bytes maxL ret ∈ zzW) (hini : Cond.initialized y.cls ∈ zzW) (hd : y.cls ≠ "java/lang/invoke/MethodHandle" ∧ y.cls ≠ "java/lang/invoke/VarHandle" ∧ (parseMethodDescriptor y.desc).map (fun d => d.parameters.length) = some n) (hRm : fr + 1 ≤ R.frames ∧ 8 + (maxL + 11) + lo ≤ R.locals) (hn : As.length = n) (hw : (st.map fun v => v.category).sum ≤ 8) (hf : cells + 0 ≤ R.cells ∧ slots + 0 ≤ R.slots) (hlink : Cond.methodLink own index y ∈ zzW) (hinst : Cond.instanceMethod y ∈ zzW) (hsel : Cond.selects y.cls y y ∈ zzW) (hcl : vwCl[ci]? = some (y.cls, T, N)) (ha : b < S.2.1) (hk : zzk S b = 10 + ci) (hstk : stk = As.reverse ++ .ref (bs + b) :: st) (d : decode cc pc = .ok (.invokevirtual index, 3)) (kk : zzB p l e R s m args below meth c nL D bs A Q cells slots S M2 hz (pc + 3) lv (st)) : zzB p l e R s m args below meth c nL D bs A Q cells slots S M hz pc lv stk := by
  subst hstk
  exact zi_callV C hM hcode hini hd hRm hn hw hf hlink hinst hsel hcl ha hk d kk
theorem zi_callS_v (C : zzC p s m args c cc own nL D) {y : MethodName} {bytes : ByteArray} {maxL index n fr lo : Nat} {M2 : zzM} {ret : Option FieldType} {As stk : List Value}  (hM : Met l y (Cond.code y bytes maxL ret :: zzW) { frames := fr, cells := 0, slots := 0, locals := lo } (zzPc D bs A S M hz As) (zzQc D bs A S M2 hz none) 0 0 A) (hcode : Cond.code y bytes maxL ret ∈ zzW) (hini : Cond.initialized y.cls ∈ zzW) (hd : y.cls ≠ "java/lang/invoke/MethodHandle" ∧ y.cls ≠ "java/lang/invoke/VarHandle" ∧ (parseMethodDescriptor y.desc).map (fun d => d.parameters.length) = some n) (hRm : fr + 1 ≤ R.frames ∧ 8 + (maxL + 11) + lo ≤ R.locals) (hn : As.length = n) (hw : (st.map fun v => v.category).sum ≤ 8) (hf : cells + 0 ≤ R.cells ∧ slots + 0 ≤ R.slots) (hlink : Cond.methodLink own index y ∈ zzW) (hst : Cond.static y ∈ zzW) (hstk : stk = As.reverse ++ st) (d : decode cc pc = .ok (.invokestatic index, 3)) (kk : zzB p l e R s m args below meth c nL D bs A Q cells slots S M2 hz (pc + 3) lv (st)) : zzB p l e R s m args below meth c nL D bs A Q cells slots S M hz pc lv stk := by
  subst hstk
  exact zi_callS C hM hcode hini hd hRm hn hw hf hlink hst d kk
end ZZ
def zzfr (b : Nat) : Nat → Nat
  | 0 => b
  | d + 1 => zzfr b d + 1
def zzlo (b : Nat) : Nat → Nat
  | 0 => b
  | d + 1 => zzlo b d + 60
theorem zzfr_ge (b d : Nat) : b ≤ zzfr b d := by
  induction d with
  | zero => exact Nat.le_refl _
  | succ d ih => exact Nat.le_succ_of_le ih
theorem zzlo_ge (b d : Nat) : b ≤ zzlo b d := by
  induction d with
  | zero => exact Nat.le_refl _
  | succ d ih => exact Nat.le_trans ih (Nat.le_add_right _ _)
theorem zz_ne {x k : Int32} {a : Int} (h : ¬ x = k) (hk : k.toInt = a) : x.toInt ≠ a := fun e => h (Int32.toInt_inj.mp (e.trans hk.symm))
/-- a method's contract out of its walk from the entry -/
theorem zz_met {l : Launch} {y : MethodName} {bytes : ByteArray} {maxL fr lo mc ms : Nat} {ret : Option FieldType} {D : zzD} {bs : Nat} {A : Nat → Prop} {S S2 : zzS} {M M2 : zzM} {hz hz2 : Nat} {res : Option Value} (av : List Value) (hy : plainName y.cls = true) (hav : (lg_sl av).length ≤ maxL)
    (body : ∀ (p : Program) (e : Env) (s : State) (m : MethodId) (args : Array Value) (below : List Frame) (meth : Method) (c : Code), zzC p s m args c bytes y.cls maxL D → meth.sig.returnType = ret → meth.locks = false → meth.name = y.name → s.heap.size = hz → zzB p l e { frames := fr, cells := mc, slots := ms, locals := lo } s m args below meth c maxL D bs A (MQ below (zzQc D bs A S2 M2 hz2 res) args s mc ms A) 0 0 S M hz 0 (lv_args 0 av) []) :
    Met l y (Cond.code y bytes maxL ret :: zzW) { frames := fr, cells := mc, slots := ms, locals := lo } (zzPc D bs A S M hz av) (zzQc D bs A S2 M2 hz2 res) mc ms A := by
  refine Met.ofW (cc := bytes) (maxL := maxL) (ret := ret) hy rfl ?_
  intro p e s m args below meth c s₁ B hml hv
  obtain ⟨rfl, hR, hK⟩ := hv
  have hts := atoms_spec (ws := Cond.code y bytes maxL ret :: zzW) B.pre
  have hl := lv_entry av (n := maxL) hav
  rw [lg_entry_eq]
  exact body p e s m _ below meth c ⟨B.exec, B.bytes, hml, findClass_of_methodNamed B.named, fun w hw => hts w (List.mem_cons_of_mem _ hw), hK⟩ B.returns B.notSynchronized (name_of_methodNamed B.named B.method).1 hR.1 s.heap [] _ hR va_S.rf hl
