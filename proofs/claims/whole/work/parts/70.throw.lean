/-! 'throw new E("text")' and its catching (launches without stack traces): the exception is one more cell of no kind -/
def zzjunk (S : zzS) : zzS := (fun a => if a = S.2.1 then (0, 0) else S.1 a, S.2.1 + 1, S.2.2 + 6)
/-- a static field that lies there, and holds null or a reference -/
def zxL (C n d : String) (bs : Nat) (U : State) (H : Heap) : Prop := va_Zq C n d (fun q => bs ≤ q) U H ∧ ∃ (c : ClassId) (k : Class) (i : Nat) (f : Field) (a : Nat) (cell : Cell), U.vm.findClass C = some c ∧ U.fieldFound? C n d = some (c, k, i, f) ∧ f.isStatic = true ∧ k.statics = some a ∧ H[a]? = some cell ∧ cell.vm.isStatics = true ∧ cell.cls = c ∧ f.slot < cell.slots.size ∧ k.staticTypes[f.slot]? = some f.type ∧ a < bs
theorem zxL.go {C n d : String} {bs : Nat} {u U : State} {H H1 : Heap} (h : zxL C n d bs u H) (hvm : u.vm.Alike U.vm) (hq : ∀ q : Nat, q < bs → H1[q]? = H[q]?) : zxL C n d bs U H1 := by
  obtain ⟨h0, c, k, i, f, a, cell, h1, h2, h3, h4, h5, h6, h7, h8, h9, h10⟩ := h
  obtain ⟨k', hi', he⟩ := State.fieldFound?_setVm hvm h2
  refine ⟨va_Zq.moved hvm (va_Zq.kept h0 (fun q _ hn => hq q (Nat.not_le.mp hn))), c, k', i, f, a, cell, ?_, hi', h3, ?_, ?_, h6, h7, h8, ?_, h10⟩
  · rw [hvm.findClass]; exact h1
  · rw [he]; exact h4
  · rw [hq a h10]; exact h5
  · rw [he]; exact h9
theorem zxL.lays {C n d : String} {bs : Nat} {s : State} {args : Array Value} (h : zxL C n d bs s s.heap) : (Cond.laysStatic C n d).before args s = true := by
  obtain ⟨-, c, k, i, f, a, cell, h1, h2, h3, h4, h5, h6, h7, h8, h9, -⟩ := h
  exact Cond.laysStatic_of (args := args) (first := s) (o := none) (s := s) (idx := []) h1 h2 h3 h4 h5 h6 h7 h8 h9
theorem zxL.isRef {C n d : String} {bs : Nat} {s : State} {args : Array Value} (h : zxL C n d bs s s.heap) : (Cond.isRef (.static C n d)).before args s = true := by
  have key : ∀ v : Value, v.isRef = true → va_Z C n d v (fun q => bs ≤ q) s s.heap → (Cond.isRef (.static C n d)).before args s = true := by
    intro v hv hz
    obtain ⟨cf, kf, fi, f, a, cell, h1, h2, h3, h4, h5, h6, h7, -⟩ := hz
    have he : (Term.static C n d).eval args s none [] s = some v := by simp [Term.eval, State.fieldNamed?, h1, h2, h4, h5, h6, h7]
    simp only [Cond.before, Cond.holds, Cond.value, he]
    cases v <;> simp_all [Value.isRef]
  rcases h.1 with h | ⟨t, h⟩
  · exact key _ rfl h
  · exact key _ rfl h
/-- the words of a throw that the tables decide -/
def zxno (w : Cond) : Bool := decide (w ≠ .isRef (.static Bundle.tN "UNASSIGNED_STACK" Bundle.steD)) && decide (w ≠ .isRef (.static Bundle.tN "SUPPRESSED_SENTINEL" Bundle.listD)) && decide (w ≠ .laysStatic Bundle.tN "UNASSIGNED_STACK" Bundle.steD) && decide (w ≠ .laysStatic Bundle.tN "SUPPRESSED_SENTINEL" Bundle.listD)

theorem zxno_all {args : Array Value} {s : State} {bs : Nat} {L : List Cond} (h1 : ∀ w ∈ L.filter zxno, w.before args s = true) (hU : zxL Bundle.tN "UNASSIGNED_STACK" Bundle.steD bs s s.heap) (hN : zxL Bundle.tN "SUPPRESSED_SENTINEL" Bundle.listD bs s s.heap) : ∀ w ∈ L, w.before args s = true := by
  intro w hw
  by_cases e1 : w = .isRef (.static Bundle.tN "UNASSIGNED_STACK" Bundle.steD)
  · rw [e1]; exact hU.isRef
  by_cases e2 : w = .isRef (.static Bundle.tN "SUPPRESSED_SENTINEL" Bundle.listD)
  · rw [e2]; exact hN.isRef
  by_cases e3 : w = .laysStatic Bundle.tN "UNASSIGNED_STACK" Bundle.steD
  · rw [e3]; exact hU.lays
  by_cases e4 : w = .laysStatic Bundle.tN "SUPPRESSED_SENTINEL" Bundle.listD
  · rw [e4]; exact hN.lays
  refine h1 w (List.mem_filter.mpr ⟨hw, ?_⟩)
  simp only [zxno, ne_eq, e1, e2, e3, e4, not_false_eq_true, decide_true, Bool.and_self]
section ZX
variable {p : Program} {l : Launch} {e : Env} {R : Room} {s : State} {m : MethodId} {args : Array Value} {below : List Frame} {meth : Method} {c : Code} {locs : List Loc} {cells slots : Nat}
/-- a frame seen as if its method had just begun in the state T -/
theorem zx_anew {T : State} (X : Stand p l e R s m args below meth c T locs cells slots) {k n : Nat} (hc : cells + k ≤ R.cells) (hs : slots + n ≤ R.slots) :
    Stand p l e { frames := R.frames, cells := k, slots := n, locals := R.locals } ((T.setVm s.vm).setFrames (.invoking m args :: below)) m args below meth c T [] 0 0 := by
  have htop : (T.setVm s.vm).topJava?.isSome := X.here.top
  have hF : ((T.setVm s.vm).setFrames (.invoking m args :: below)).frames = .invoking m args :: below := State.frames_setFrames _ (State.cur_lt_of_top htop)
  obtain ⟨g₀, hg0⟩ := Option.isSome_iff_exists.mp htop
  obtain ⟨r, hr⟩ := State.topJava?_eq_some.mp hg0
  have hli : e.platform.stackLimits (T.setVm s.vm).me = e.platform.stackLimits s.me := X.limits
  have hby : (T.setVm s.vm).me.stackBytes = s.me.stackBytes := X.bytes
  have hnil : T.heap.toList.drop T.heap.size = [] := List.drop_eq_nil_of_le (Nat.le_of_eq Array.length_toList)
  have hroom : ((T.setVm s.vm).setFrames (.invoking m args :: below)).hasRoom e.platform { frames := R.frames, cells := k, slots := n, locals := R.locals } = true := by
    have h := X.room
    have hU : ((T.setVm s.vm).setFrames (.invoking m args :: below)).localsInUse = s.localsInUse := by
      rw [State.localsInUse_invoking hF (meth := meth) (c := c) X.method X.code, State.localsInUse_invoking X.frames X.method X.code]
    simp only [State.hasRoom, Bool.and_eq_true, decide_eq_true_eq] at h ⊢
    obtain ⟨⟨⟨⟨h1, h2, h3, h4, h5, h6⟩, h7⟩, h8⟩, h9⟩ := h
    rw [X.frames, List.length_cons] at h2 h3
    have q1 := X.heapSize
    have q2 := X.used
    simp only [hF, hU, List.length_cons, State.stackLimits_setFrames, State.stackBytes_setFrames, hli, hby]
    refine ⟨⟨⟨⟨by omega, by omega, by omega, by omega, by omega, h6⟩, ?_⟩, ?_⟩, X.book⟩
    · show T.heap.size + k ≤ e.platform.maxCells
      omega
    · show T.slotsUsed + n ≤ e.platform.maxSlots
      omega
  refine ⟨X.admits, X.cas, X.clock, hF, hroom, X.hears, X.method, X.code, X.here, X.tail, X.warmed, ?_, ?_, ?_⟩
  · rw [State.stackLimits_setFrames]; rfl
  · rw [State.stackBytes_setFrames]; rfl
  · refine ⟨?_, Nat.le_refl _, Nat.le_refl _, ?_, ?_, fun a c9 h9 => ⟨c9, h9, rfl, rfl, fun _ _ => rfl⟩⟩
    · obtain ⟨t, ht, -⟩ := State.frames_cons hr
      show T.setVm s.vm = { ((T.setVm s.vm).setFrames (.invoking m args :: below)).setFrames (T.setVm s.vm).frames with heap := T.heap, slotsUsed := T.slotsUsed }
      rw [State.setFrames_setFrames, State.setFrames_self ht]
      rfl
    · show T.slotsUsed = T.slotsUsed + ((T.heap.toList.drop T.heap.size).map (·.slots.size)).sum
      rw [hnil]; rfl
    · show ((T.heap.toList.drop T.heap.size).map (·.slots.size)).sum ≤ 0
      rw [hnil]; exact Nat.le_refl _
end ZX
/-- nothing old was written: the old cells stand -/
theorem zx_old {s U : State} {k n : Nat} (h : s.sameButNew ({ U with vm := s.vm } : State) [] k n) : s.heap.size ≤ U.heap.size ∧ ∀ q : Nat, q < s.heap.size → U.heap[q]? = s.heap[q]? := by
  obtain ⟨-, h2, -, -, -, h6⟩ := h
  refine ⟨h2, fun q hq => ?_⟩
  obtain ⟨c9, e1, e2, e3, e4⟩ := h6 q _ (Array.getElem?_eq_getElem hq)
  have hs : c9.slots = (s.heap[q]).slots := Array.ext_getElem? fun i => e4 i fun hm => by cases hm
  have h9 : c9 = s.heap[q] := by rw [hs] at e2; exact e2
  have e5 : U.heap[q]? = some c9 := e1
  rw [e5, h9, Array.getElem?_eq_getElem hq]
/-- what a throwing call leaves: the exception is the new cell, the world stands -/
def zxQ (D : zzD) (bs : Nat) (A : Nat → Prop) (S : zzS) (M : zzM) (En : String) : Array Value → State → Outcome → State → Prop := fun _ st o t => o = .threw (bs + S.2.1) ∧ (∃ ce : Cell, t.heap[bs + S.2.1]? = some ce ∧ ce.vm = .none ∧ st.vm.findClass En = some ce.cls) ∧ zzRep D bs A (zzjunk S) M (bs + (zzjunk S).2.1) t.heap ∧ va_F A st t
def zxB (a : Array Value) (s : State) (o : Outcome) (t : State) (Qx : Array Value → State → Outcome → State → Prop) (mc ms : Nat) (free : Addr → Prop) : Prop := Qx a s o t ∧ ∃ L : List Loc, (s.WarmedH t.vm ∧ s.sameButNew ({ t with vm := s.vm } : State) L mc ms) ∧ ∀ z ∈ L, free z.base
def zxMQ (below : List Frame) (Qx : Array Value → State → Outcome → State → Prop) (a : Array Value) (s : State) (mc ms : Nat) (free : Addr → Prop) : State → Prop := fun t => ∃ o, t.status = .running ∧ Ended t below o ∧ zxB a s o t Qx mc ms free
def zxMet (l : Launch) (y : MethodName) (ws : List Cond) (rm : Room) (Pc : Array Value → State → Prop) (Qx : Array Value → State → Outcome → State → Prop) (mc ms : Nat) (free : Addr → Prop) : Prop := MetFree l y (headSpec ws rm) Pc (fun _ _ _ _ _ => True) (fun a st o t => zxB a st o t Qx mc ms free)
/-- what a throw asks of the start -/
def zxW (bs : Nat) (own : String) (ik is_ ic : Nat) (cls tx : String) (names : List String) (sa : Nat) (U : State) : Prop := (∀ w ∈ Cond.classLink own ik cls :: Cond.initialized cls :: (Bundle.ownAtoms own ic cls names).filter zxno, w.before #[] U = true) ∧ vk_R own is_ tx sa U ∧ zxL Bundle.tN "UNASSIGNED_STACK" Bundle.steD bs U U.heap ∧ zxL Bundle.tN "SUPPRESSED_SENTINEL" Bundle.listD bs U U.heap

section ZXT
variable {p : Program} {l : Launch} {e : Env} {R : Room} {s : State} {m : MethodId} {args : Array Value} {below : List Frame} {meth : Method} {c : Code} {cc : ByteArray} {own : String} {nL : Nat} {D : zzD} {bs : Nat} {A : Nat → Prop} {S : zzS} {M : zzM} {pc : Nat} {lv : List (Nat × Value)} {st : List Value}
theorem zi_throw (C : zzC p s m args c cc own nL D) (hl0 : l.stackTraces = false) {cls tx : String} {names : List String} {ik is_ ic sa : Nat} (hcls : Bundle.fit cls = true) (hnames : ∀ n ∈ names, Bundle.fit n = true) (hZ : zxW bs own ik is_ ic cls tx names sa s) (hgood : ∀ w ∈ Cond.classLink own ik cls :: Cond.initialized cls :: (Bundle.ownAtoms own ic cls names).filter zxno, (w.onTables || goodWord w) = true) (hA : ∀ q : Nat, s.heap.size ≤ q → A q) (hsz : s.heap.size = bs + S.2.1) (hAb : ∀ q : Nat, A q → bs ≤ q) (hlocks : meth.locks = false) (hout : ∀ x ∈ c.exceptionTable.toList, covers x (pc + 9) = false)
    (d0 : decode cc pc = .ok (.new ik, 3)) (d3 : decode cc (pc + 3) = .ok (.dup, 1)) (d4 : decode cc (pc + 4) = .ok (.ldc is_, 2)) (d6 : decode cc (pc + 6) = .ok (.invokespecial ic, 3)) (d9 : decode cc (pc + 9) = .ok (.athrow, 1))
    (hRf : names.length + 3 < R.frames) (hRl : (st.map fun v => v.category).sum + (13 * (names.length + 1) + 43) ≤ R.locals) (hRc : 0 + 1 ≤ R.cells) (hRs : 0 + 6 ≤ R.slots) :
    zzB p l e R s m args below meth c nL D bs A (zxMQ below (zxQ D bs A S M cls) args s 1 6 A) 0 0 S M (bs + S.2.1) pc lv st := by
  intro H locs ls hR hS hl T hT X
  have htr : e.platform.stackTraces = false := (show e.platform.stackTraces = l.stackTraces by rw [X.admits.platform]).trans hl0
  have Y := zx_anew X (k := 1) (n := 6) hRc hRs
  obtain ⟨s', hs'⟩ : ∃ z, z = (T.setVm s.vm).setFrames (.invoking m args :: below) := ⟨_, rfl⟩
  rw [← hs'] at Y
  have hvm : s'.vm = s.vm := by rw [hs']; rfl
  have hhp : s'.heap = H := by rw [hs']; exact hT
  have hW0 : s.WarmedH s'.vm := by rw [hvm]; exact State.WarmedH.refl s
  have hlow : ∀ q : Nat, q < bs → s'.heap[q]? = s.heap[q]? := fun q hq => by
    rw [hhp]; exact hS.2.1 q (by omega) (fun h => absurd (hAb q h) (by omega))
  obtain ⟨hZ1, hZ2, hZ3, hZ4⟩ := hZ
  have hw : ∀ w ∈ Cond.classLink own ik cls :: Cond.initialized cls :: (Bundle.ownAtoms own ic cls names).filter zxno, w.before args s' = true := fun w hw => by
    have hg := hgood w hw
    simp only [Bool.or_eq_true] at hg
    rcases hg with hg | hg
    · exact va_tabs hg hvm.symm (hZ1 w hw)
    · exact word_at hW0 (good_of_word hg) (hZ1 w hw)
  have h : ∀ w ∈ Bundle.ownAtoms own ic cls names, w.before args s' = true := zxno_all (fun w hh => hw w (List.mem_cons_of_mem _ (List.mem_cons_of_mem _ hh))) (hZ3.go hW0.alike hlow) (hZ4.go hW0.alike hlow)
  have hown' : s'.vm.findClass own = some m.cls := by rw [hvm]; exact C.2.2.2.1
  have hins : (Cond.instantiable cls 6).before args s' = true := h _ (by simp [Bundle.ownAtoms])
  obtain ⟨vm₁, cX, kX, hfX, hkX, -, -, X₁, st1⟩ := Y.newCold C.1 (own := own) (C := cls) (index := ik) (n := 6) hown' (hw _ List.mem_cons_self) hins (hw _ (List.mem_cons_of_mem _ List.mem_cons_self)) (g := F0 m pc ls st) rfl (by rw [C.2.1]; exact d0) (Nat.le_refl _) (Nat.le_refl _)
  generalize hT1 : (T.setVm vm₁).pushCell { cls := cX, slots := kX.instanceTypes.map defaultValue, vm := .none } = T1 at X₁ st1
  have hcat : (Value.ref T.heap.size).category = 1 := rfl
  have hcellA : T1.heap[T.heap.size]? = some (freshCell cX kX) := by rw [← hT1]; exact State.heap_pushCell_size _ _
  have d3' : decode c.code (pc + 3) = .ok (.dup, 1) := by rw [C.2.1]; exact d3
  have d4' : decode c.code (pc + 4) = .ok (.ldc is_, 2) := by rw [C.2.1]; exact d4
  have hstr := vk_R.warm hW0 hZ2
  obtain ⟨U, hsteps, hrun, hend, hW, hsame, ce, hce, hO⟩ := X₁.ctorThrowS C.1 htr (own := own) (cls := cls) (names := names) (ic := ic) hown' hcls hnames h (fun x hx => nomatch hx) hfX hkX hcellA (by rw [hhp, hT]; exact Nat.le_refl _) (msg := .ref sa) rfl
    (g := { method := m, pc := pc + 6, locals := ls, stack := .ref sa :: .ref T.heap.size :: .ref T.heap.size :: st, locked := none }) rfl (by rw [C.2.2.1]; exact hl.1) rfl rfl (rest := st) rfl
    (by rw [C.2.1]; exact d6) (by rw [C.2.1]; exact d9) hout hRf (by simp only [List.map_cons, List.sum_cons, hcat]; omega) hlocks
  have hz : T.heap.size = bs + S.2.1 := by rw [hT]; exact hR.1
  obtain ⟨f1, f2⟩ := zx_old hsame
  rw [hhp] at f1 f2
  have hWs : s.WarmedH U.vm := State.WarmedH.trans hW0 hW
  have hcl : s.vm.findClass cls = some ce.cls := by
    have h9 := hO.cls
    rw [hvm] at h9
    exact h9
  have hall : s.sameButNew ({ U with vm := s.vm } : State) locs 1 6 := by
    subst hs'
    obtain ⟨e1, e2⟩ := hsame
    rw [State.setFrames_setFrames] at e1
    have h2 : (T.setVm s.vm).sameButNew ({ U with vm := s.vm } : State) [] (0 + 1) (0 + 6) := ⟨e1, e2⟩
    have h3 := X.same.trans h2
    rw [List.append_nil] at h3
    exact h3
  have hUs : U.heap.size = bs + S.2.1 + 1 := by
    obtain ⟨-, -, g3, -⟩ := hsame
    have g3' : U.heap.size ≤ s'.heap.size + (0 + 1) := g3
    rw [hhp, hR.1] at g3'
    have := (Array.getElem?_eq_some_iff.mp hce).1
    omega
  refine ⟨U, ?_, .threw T.heap.size, hrun, hend, ⟨by rw [hz], ⟨ce, by rw [← hz]; exact hce, hO.vm, hcl⟩, ?_, ?_⟩, locs, ⟨hWs, hall⟩, hS.2.2⟩
  · refine st1 _ ?_
    show Steps p.tables e below (T1.setTop { method := m, pc := pc + 3, locals := ls, stack := .ref T.heap.size :: st, locked := none }) _
    jvm_step X₁.here [X₁.here.top, C.1, d3', Value.category]
    exact X₁.ldcString C.1 (own := own) (text := tx) (index := is_) (a := sa) hown' hstr.1 hstr.2
      (g := { method := m, pc := pc + 4, locals := ls, stack := .ref T.heap.size :: .ref T.heap.size :: st, locked := none }) rfl d4' _ hsteps
  · refine ⟨by rw [hUs]; show _ = bs + (S.2.1 + 1); omega, fun b hb hk => ?_⟩
    have hb' : b < S.2.1 + 1 := hb
    by_cases hbn : b = S.2.1
    · subst hbn; exact absurd (by simp [zzk, zzjunk]) hk
    · have hS1 : (zzjunk S).1 b = S.1 b := by simp [zzjunk, hbn]
      have hkk : zzk S b ≠ 0 := by
        unfold zzk at hk ⊢
        rw [hS1] at hk; exact hk
      obtain ⟨q1, q2⟩ := hR.2 b (by omega) hkk
      exact ⟨q1, q2.kept2 hS1 (f2 _ (by have := hR.1; omega)) ⟨rfl, rfl, rfl⟩⟩
  · exact ⟨by have := hS.1; have := hR.1; omega, fun q w1 w2 => by rw [f2 q (by have := hS.1; omega)]; exact hS.2.1 q w1 w2⟩
end ZXT
/-- a throwing method's contract out of its walk -/
theorem zx_met {l : Launch} {y : MethodName} {bytes : ByteArray} {maxL fr lo : Nat} {ret : Option FieldType} {D : zzD} {bs : Nat} {A : Nat → Prop} {X : State → Prop} {S : zzS} {M M1 : zzM} {En : String} (av : List Value) (hy : plainName y.cls = true) (hav : (lg_sl av).length ≤ maxL)
    (body : ∀ (p : Program) (e : Env) (s : State) (m : MethodId) (args : Array Value) (below : List Frame) (meth : Method) (c : Code), zzC p s m args c bytes y.cls maxL D → meth.locks = false → (∀ x ∈ c.exceptionTable.toList, False) → X s → s.heap.size = bs + S.2.1 → zzB p l e { frames := fr, cells := 1, slots := 6, locals := lo } s m args below meth c maxL D bs A (zxMQ below (zxQ D bs A S M1 En) args s 1 6 A) 0 0 S M (bs + S.2.1) 0 (lv_args 0 av) []) :
    zxMet l y (Cond.code y bytes maxL ret :: zzW) { frames := fr, cells := 1, slots := 6, locals := lo } (zzPcX D bs A X S M av) (zxQ D bs A S M1 En) 1 6 A := by
  refine MetFree.of_bodyS (code := bytes) (maxLocals := maxL) (ret := ret) hy ?_ ?_
  · intro args s m h hn
    obtain ⟨meth, c, h1, h2, h3, h4, h5, h6, -, -⟩ := Cond.code_spec hn (atoms_spec (ws := Cond.code y bytes maxL ret :: zzW) h _ List.mem_cons_self)
    exact ⟨meth, c, h1, h2, h3, h4, h5, h6⟩
  · intro p e s m args below meth c s₁ B hml hv _
    obtain ⟨rfl, hR, hK, hX⟩ := hv
    have hh0 : s₁.heap = s.heap := by rw [B.state]; rfl
    have hts := atoms_spec (ws := Cond.code y bytes maxL ret :: zzW) B.pre
    have ht : ∀ x ∈ c.exceptionTable.toList, False := by
      obtain ⟨meth9, c9, h1, h2, -, -, -, -, h7, -⟩ := Cond.code_spec B.named (hts _ List.mem_cons_self)
      cases Option.some.inj (h1.symm.trans B.method)
      cases Option.some.inj (h2.symm.trans (Stand.of_body B).code)
      intro x hx
      rw [Array.isEmpty_iff.mp h7] at hx
      cases hx
    have hl := lv_entry av (n := maxL) hav
    have hb := body p e s m _ below meth c ⟨B.exec, B.bytes, hml, findClass_of_methodNamed B.named, fun w hw => hts w (List.mem_cons_of_mem _ hw), hK⟩ B.notSynchronized ht hX hR.1 s.heap [] _ hR va_S.rf hl
    rw [← lg_entry_eq (m := m)] at hb
    obtain ⟨t, a1, o, b1, b2, b3⟩ := hb s₁ hh0 (Stand.of_body B)
    exact ⟨t, o, a1, b1, b2, b3⟩
