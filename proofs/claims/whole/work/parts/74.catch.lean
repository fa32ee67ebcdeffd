/-! a throw out of a call, caught by the one row of the caller's own table -/
section ZXC
variable {Q : Handler → Pre} {E : CtlPost} {e : Env} {d : Bool} {acts : List Action} {s : State} {f : JFrame} {a : Addr}
theorem zx_go {x : ExceptionTableEntry} {t : List ExceptionTableEntry} {c : ClassId} {cell : Cell} (hx : covers x f.pc = true) (h0 : x.catchType ≠ 0) (hl : s.vm.ClassLinks e.platform f.method.cls x.catchType c) (hcell : s.heap[a]? = some cell) (hobj : ∀ k, cell.vm ≠ .statics k) (hk : ∃ k, s.vm.classes[cell.cls]? = some k) (hc : ∃ k, s.vm.classes[c]? = some k) (hfit : s.vm.assignable cell.cls c = true) :
    Sem.wp (findHandler.go f a (x :: t)) Q E e d acts s ↔ Q (.found x.handlerPc) d acts (s.setVm (s.vm.noted f.method.cls x.catchType (.cls c))) := by
  simp only [covers] at hx
  obtain ⟨r1, r2⟩ := (resolveClass_links e.toSetting hl).op (op := VmOp.resolveClass f.method.cls x.catchType) rfl
  have hal : s.vm.Alike (s.vm.noted f.method.cls x.catchType (.cls c)) := (Vm.Alike.refl s.vm).noted _ _ _
  obtain ⟨k1, hk1⟩ := hk
  obtain ⟨k2, hk2⟩ := hc
  obtain ⟨k3, hk3, -⟩ := hal.2.2 _ _ hk1
  obtain ⟨k4, hk4, -⟩ := hal.2.2 _ _ hk2
  have hf2 : (s.vm.noted f.method.cls x.catchType (.cls c)).assignable cell.cls c = true := (hal.assignable _ _).trans hfit
  simp [findHandler.go, hx, h0, r1, r2, hcell, hobj, hk3, hk4, hf2, VmOp.dirties, VmOp.acts]
end ZXC
section ZXD
variable {p : Program} {l : Launch} {e : Env} {R : Room} {s : State} {m : MethodId} {args : Array Value} {below : List Frame} {meth : Method} {c : Code} {locs : List Loc} {cells slots : Nat}
/-- from the note of the throw to the handler -/
theorem zx_catch {B : State} (X : Stand p l e R s m args below meth c B locs cells slots) {g : JFrame} (hg : g.method = m) {q : Addr} {ce : Cell} (hce : B.heap[q]? = some ce) (hvm : ce.vm = .none) {own En : String} (hown : s.vm.findClass own = some m.cls) (hcl : s.vm.findClass En = some ce.cls)
    {x : ExceptionTableEntry} (hex : c.exceptionTable.toList = [x]) (hx : covers x g.pc = true) (h0 : x.catchType ≠ 0) (hlink : (Cond.classLink own x.catchType En).before args s = true) :
    ∃ vm1, s.WarmedH vm1 ∧ ∀ target, Steps p.tables e below ((B.setVm vm1).setTop { g with pc := x.handlerPc, stack := [.ref q] }) target → Steps p.tables e below ((B.setTop g).pushFrame (.throwing q)) target := by
  have hpl : e.platform.magicAccessors = ({} : Platform).magicAccessors := by rw [X.admits.platform]
  obtain ⟨c1, hc1, hcl1⟩ := Cond.classLink_spec hown hlink e.platform hpl
  have q3 : s.vm.assignable ce.cls ce.cls = true := by
    show s.vm.assignableAux (255 + 1) ce.cls ce.cls = true
    rw [Vm.assignableAux, Bool.or_eq_true, beq_iff_eq]
    exact Or.inl rfl
  cases hcl.symm.trans hc1
  obtain ⟨dk, _, _, kt, hd, _, _, _, _, hkt, _, hopen⟩ := hcl1.here
  obtain ⟨kt1, hkt1, -⟩ := X.warmed.alike.2.2 _ _ hkt
  subst hg
  have hB : ((B.setTop g).pushFrame (.throwing q)).vm = B.vm := Stand.throwing_vm B g q
  have hH : ((B.setTop g).pushFrame (.throwing q)).heap = B.heap := Stand.throwing_heap B g q
  refine ⟨B.vm.noted g.method.cls x.catchType (.cls ce.cls), X.warmed.noted hd hopen (State.rightAt_cls hcl1), fun target hrest => ?_⟩
  obtain ⟨hgo, hw⟩ := X.here.throwing (g := g) q
  refine Steps.head hgo hw ?_
  have hfind : ∀ (Q : Handler → Pre) (E : CtlPost) (d : Bool) (acts : List Action), Sem.wp (findHandler g q) Q E e d acts ((B.setTop g).pushFrame (.throwing q)) ↔ Q (.found x.handlerPc) d acts (((B.setTop g).pushFrame (.throwing q)).setVm (B.vm.noted g.method.cls x.catchType (.cls ce.cls))) := by
    intro Q E d acts
    rw [W.findHandler_eq (meth := meth) (code := c) (by rw [hB]; exact X.method') X.code, hex]
    have := zx_go (Q := Q) (E := E) (e := e) (d := d) (acts := acts) (s := (B.setTop g).pushFrame (.throwing q)) (f := g) (a := q) (t := []) (x := x) (c := ce.cls) (cell := ce) hx h0 (by rw [hB]; exact X.warmed.classLinks hcl1) (by rw [hH]; exact hce) (fun k h => by rw [hvm] at h; cases h) (by rw [hB]; exact ⟨kt1, hkt1⟩) (by rw [hB]; exact ⟨kt1, hkt1⟩) (by rw [hB, X.warmed.alike.assignable]; exact q3)
    rw [hB] at this
    exact this
  rw [stepThread_throwing (frames_entered X.here.top _)]
  have hst : (stepThrowing e ((B.setTop g).pushFrame (.throwing q)) q (.java g :: B.frames.tail)).Is ((((B.setTop g).pushFrame (.throwing q)).setVm (B.vm.noted g.method.cls x.catchType (.cls ce.cls))).setFrames (.java { g with pc := x.handlerPc, stack := [.ref q] } :: B.frames.tail)) [] := by
    simp only [stepThrowing, searchFrame, vmDo]
    generalize hr : Sem.go _ e false [] ((B.setTop g).pushFrame (.throwing q)) = res
    obtain ⟨as, rfl, ha⟩ := Sem.eq_ok_of hr (a := Handler.found x.handlerPc) (s' := ((B.setTop g).pushFrame (.throwing q)).setVm (B.vm.noted g.method.cls x.catchType (.cls ce.cls))) (acts' := []) (by simp [hfind _ _ _ _])
    exact ⟨rfl, ha⟩
  rw [hst.1]
  obtain ⟨g0, hg0⟩ := Option.isSome_iff_exists.mp X.here.top
  obtain ⟨r, hr⟩ := State.topJava?_eq_some.mp hg0
  have hr1 : (B.setVm (B.vm.noted g.method.cls x.catchType (.cls ce.cls))).frames = .java g0 :: r := hr
  rw [State.setTop_of_frames _ hr1] at hrest
  have hsv : ∀ (u : State) (v : Vm) (F : List Frame), (u.setFrames F).setVm v = (u.setVm v).setFrames F := fun _ _ _ => rfl
  rw [hr, List.tail_cons, State.pushFrame, hsv, State.setFrames_setFrames, State.setTop_of_frames _ hr, hsv, State.setFrames_setFrames]
  exact hrest
end ZXD
section ZXE
variable {p : Program} {l : Launch} {e : Env} {R : Room} {s : State} {m : MethodId} {args : Array Value} {below : List Frame} {meth : Method} {c : Code} {cells slots : Nat} {Q : State → Prop} {cc : ByteArray} {own : String} {nL : Nat} {D : zzD} {bs : Nat} {A : Nat → Prop} {X : State → Prop} {S : zzS} {M M2 : zzM} {pc : Nat} {lv : List (Nat × Value)} {st : List Value}
/-- a call that throws, caught -/
theorem zi_callT (C : zzC p s m args c cc own nL D) {y : MethodName} {bytes : ByteArray} {maxL index n fr lo : Nat} {ret : Option FieldType} {As stk : List Value} {ci N b : Nat} {T : u_T} {En : String}
    (hM : zxMet l y (Cond.code y bytes maxL ret :: zzW) { frames := fr, cells := 1, slots := 6, locals := lo } (zzPcX D bs A X S M (Value.ref (bs + b) :: As)) (zxQ D bs A S M2 En) 1 6 A) (hXs : zzStab bs X) (hX : X s) (hAb : ∀ q : Nat, A q → bs ≤ q) (hbs : bs ≤ s.heap.size)
    (hcode : Cond.code y bytes maxL ret ∈ zzW) (hini : Cond.initialized y.cls ∈ zzW) (hd : y.cls ≠ "java/lang/invoke/MethodHandle" ∧ y.cls ≠ "java/lang/invoke/VarHandle" ∧ (parseMethodDescriptor y.desc).map (fun d => d.parameters.length) = some n) (hRm : fr + 1 ≤ R.frames ∧ 8 + (maxL + 11) + lo ≤ R.locals) (hn : As.length = n) (hw : (st.map fun v => v.category).sum ≤ 8) (hf : cells + 1 ≤ R.cells ∧ slots + 6 ≤ R.slots)
    (hlink : Cond.methodLink own index y ∈ zzW) (hinst : Cond.instanceMethod y ∈ zzW) (hsel : Cond.selects y.cls y y ∈ zzW) (hcl : vwCl[ci]? = some (y.cls, T, N)) (ha : b < S.2.1) (hk : zzk S b = 10 + ci) (hstk : stk = As.reverse ++ .ref (bs + b) :: st) (d : decode cc pc = .ok (.invokevirtual index, 3))
    {x0 x1 hp ct : Nat} (hex : c.exceptionTable.toList.map (fun h => (h.startPc, h.endPc, h.handlerPc, h.catchType)) = [(x0, x1, hp, ct)]) (hc0 : x0 ≤ pc) (hc1 : pc < x1) (hct : ct ≠ 0) (hlE : Cond.classLink own ct En ∈ zzW)
    (kk : zzB p l e R s m args below meth c nL D bs A Q (cells + 1) (slots + 6) (zzjunk S) M2 (bs + (zzjunk S).2.1) hp lv [.ref (bs + S.2.1)]) : zzB p l e R s m args below meth c nL D bs A Q cells slots S M (bs + S.2.1) pc lv stk := by
  subst hstk
  intro H locs ls hR hS hl T0 hT X0
  obtain ⟨x, hx1, hx2⟩ : ∃ x : ExceptionTableEntry, c.exceptionTable.toList = [x] ∧ (x.startPc, x.endPc, x.handlerPc, x.catchType) = (x0, x1, hp, ct) := by
    cases hh : c.exceptionTable.toList with
    | nil => rw [hh] at hex; cases hex
    | cons x t =>
      rw [hh] at hex
      cases t with
      | nil => exact ⟨x, rfl, (List.cons.inj hex).1⟩
      | cons y t => exact absurd (congrArg List.length hex) (by simp)
  obtain ⟨e0, e1, e2, e3⟩ : x.startPc = x0 ∧ x.endPc = x1 ∧ x.handlerPc = hp ∧ x.catchType = ct := by
    simp only [Prod.mk.injEq] at hx2; exact hx2
  obtain ⟨-, cell, g1, g2, g3, -⟩ := hR.obj ha hk hcl
  have hfc := (C.2.2.2.2.2.1 ci _ hcl).2.1
  have W5 := C.2.2.2.2.1
  obtain ⟨mk, methM, hnamed, hmethM, hstM, habM⟩ := Cond.instanceMethod_spec (W5 _ hinst)
  obtain ⟨methM', cM, hmethM', hcM, -, hmlM, -, -, -, hsigM⟩ := Cond.code_spec hnamed (W5 _ hcode)
  cases hmethM.symm.trans hmethM'
  obtain ⟨c2, r2, m2, q1, q2, q3, q4, kP, hkP, hkPi⟩ := Cond.selects_spec (W5 _ hsel)
  have hcls : s.vm.findClass y.cls = some cell.cls := by rw [g2]; exact hfc
  cases hcls.symm.trans q1
  cases (State.methodFound?_of_named hnamed ⟨hd.1, hd.2.1⟩).symm.trans q2
  cases hnamed.symm.trans q3
  have hselP : selectMethod e.platform s.vm cell.cls mk = .method mk := by rw [Launch.admits_selectMethod X0.admits]; exact q4
  have hlenA : As.length = methM.sig.parameters.length := by
    have h2 := hd.2.2
    rw [hsigM] at h2
    exact hn.trans (Option.some.inj h2).symm
  obtain ⟨vm₁, X₁, hstep₁⟩ := X0.invokevirtual C.1 C.2.2.2.1 (W5 _ hlink) hnamed hmethM hstM hkP hkPi ⟨hd.1, hd.2.1⟩ (a := bs + b) (cell := cell) (by rw [hT]; exact g1)
    (fun z h => by rw [g3] at h; cases h) hselP hmethM habM hkP hkPi (g := F0 m pc ls (As.reverse ++ .ref (bs + b) :: st)) rfl (argsL := As) (rest := st) hlenA rfl (by rw [C.2.1]; exact d)
  obtain ⟨g, hgdef⟩ : ∃ g : JFrame, g = { F0 m pc ls (As.reverse ++ .ref (bs + b) :: st) with stack := st } := ⟨_, rfl⟩
  obtain ⟨U, hU⟩ : ∃ U, U = T0.setVm vm₁ := ⟨_, rfl⟩
  have hst1 : ∀ target, (∀ acts, Steps p.tables e below (doInvoke e (U.setTop g) acts mk (Value.ref (bs + b) :: As).toArray).1 target) → Steps p.tables e below (T0.setTop (F0 m pc ls (As.reverse ++ .ref (bs + b) :: st))) target := by
    subst hU; subst hgdef; exact fun target h => hstep₁ target h
  rw [← hU] at X₁
  have hgm : g.method = m := by rw [hgdef]
  have hgp : g.pc = pc := by rw [hgdef]
  have hUh : U.heap = H := by rw [hU]; exact hT
  have hat : At U g.method c below := by rw [hgm]; exact X₁.here
  obtain ⟨kY, hkY, -⟩ := className_of_methodNamed (X₁.named hnamed)
  have hws : ∀ w ∈ Cond.code y bytes maxL ret :: zzW, w.before (Value.ref (bs + b) :: As).toArray U = true := fun w hw => by
    obtain ⟨z1, z2⟩ := zz_good hcode w hw
    exact word_at X₁.warmed z2 (W5 _ z1)
  have hinitY : kY.init = .initialized := Cond.initialized_spec (findClass_of_methodNamed (X₁.named hnamed)) hkY (hws _ (List.mem_cons_of_mem _ hini))
  obtain ⟨methY, cY, hmY, hcY, -, hlY, -⟩ := Cond.code_spec (X₁.named hnamed) (hws _ List.mem_cons_self)
  have happ : (headSpec (Cond.code y bytes maxL ret :: zzW) { frames := fr, cells := 1, slots := 6, locals := lo }).appliesLoose y e.platform (U.calling g mk (Value.ref (bs + b) :: As).toArray) = true :=
    Spec.appliesLoose_calling (g := g) hat (by rw [hgp, C.2.1]; exact d) (X₁.named hnamed) hkY hinitY
      (X₁.room_calling (g := g) (R' := { frames := fr, cells := 1, slots := 6, locals := lo }) (by rw [hgdef]; exact (hl.1.trans C.2.2.1.symm)) hmY hcY hRm.1 (by
        have h9 : 2 * g.monitorRoom + (g.stack.map fun v => v.category).sum ≤ 8 := by rw [hgdef]; exact lv_room hw
        rw [hlY]; have := hRm.2; dsimp only; omega) hf.1 hf.2) (atoms_intro hws)
  obtain ⟨mid, hmid⟩ := hat.above
  have hfr : (U.setTop g).frames = (.java g :: mid) ++ below := by rw [State.frames_setTop' g hat.top, hmid]; rfl
  have hPc : zzPcX D bs A X S M (Value.ref (bs + b) :: As) (Value.ref (bs + b) :: As).toArray (U.calling g mk (Value.ref (bs + b) :: As).toArray) := by
    refine ⟨rfl, ?_, ?_, ?_⟩
    · show zzRep D bs A S M (bs + S.2.1) U.heap
      rw [hUh]; exact hR
    · exact zzK.moved (u := U) (Vm.Alike.refl U.vm) (C.2.2.2.2.2.moved X₁.warmed.alike)
    · exact hXs.2 U g mk _ (hXs.1 s U hX X₁.warmed (fun q hq => by rw [hUh]; exact hS.2.1 q (by omega) (fun h => absurd (hAb q h) (by omega))))
  obtain ⟨o, s₂, hsteps, -, hend, ⟨rfl, ⟨ce, hce, hcv, hcc⟩, hrep, hz2, hkeep⟩, L, ⟨hW₂, hsame₂⟩, hL⟩ := Steps.callFree hM p X₁.admits X₁.cas X₁.clock (acts := []) hfr happ hPc trivial
  have hend' : s₂.frames = .throwing (bs + S.2.1) :: (U.setTop g).frames := hend
  obtain ⟨q1', q2', q3', q4', q5', q6'⟩ := hsame₂
  have e3' : s₂ = ({ (U.calling g mk (Value.ref (bs + b) :: As).toArray).setFrames s₂.frames with heap := s₂.heap, slotsUsed := s₂.slotsUsed } : State).setVm s₂.vm := by
    have h9 : s₂ = ({ s₂ with vm := (U.calling g mk (Value.ref (bs + b) :: As).toArray).vm } : State).setVm s₂.vm := rfl
    exact h9.trans (congrArg (fun z => State.setVm z s₂.vm) q1')
  obtain ⟨g₀, hg0⟩ := Option.isSome_iff_exists.mp hat.top
  obtain ⟨r, hr⟩ := State.topJava?_eq_some.mp hg0
  obtain ⟨B, hB⟩ : ∃ B, B = ({ U with heap := s₂.heap, slotsUsed := s₂.slotsUsed } : State).setVm s₂.vm := ⟨_, rfl⟩
  have hs₂ : s₂ = (B.setTop g).pushFrame (.throwing (bs + S.2.1)) := by
    have hr' : B.frames = .java g₀ :: r := by rw [hB]; exact hr
    have hf2 : (U.setTop g).frames = .java g :: r := by rw [State.frames_setTop' g hat.top, hr]; rfl
    refine e3'.trans ?_
    rw [hend', hf2, State.calling_eq hat.top, State.setFrames_setFrames, State.pushFrame, State.setTop_of_frames _ hr', State.setFrames_setFrames, hB]
    have hfr2 : (({ U with heap := s₂.heap, slotsUsed := s₂.slotsUsed } : State).setVm s₂.vm |>.setFrames (.java g :: r)).frames = .java g :: r := State.frames_setFrames _ (State.cur_lt_of_top hat.top)
    rw [hfr2]
    rfl
  have hW' : U.WarmedH s₂.vm := hW₂
  have hsame : U.sameButNew ({ U with heap := s₂.heap, slotsUsed := s₂.slotsUsed } : State) L 1 6 := by
    refine ⟨?_, q2', q3', q4', q5', q6'⟩
    obtain ⟨t, ht, -⟩ := State.frames_cons hr
    show ({ U with heap := s₂.heap, slotsUsed := s₂.slotsUsed } : State) = { U.setFrames U.frames with heap := s₂.heap, slotsUsed := s₂.slotsUsed }
    rw [State.setFrames_self ht]
  have XB : Stand p l e R s m args below meth c B (locs ++ L) (cells + 1) (slots + 6) := by
    rw [hB]
    exact ⟨X₁.admits, X₁.cas, X₁.clock, X₁.frames, X₁.room, X₁.hears, X₁.method, X₁.code, (X₁.here.setHeapUsed s₂.heap s₂.slotsUsed).setVm hW'.alike, X₁.tail, State.WarmedH.trans X₁.warmed hW', X₁.limits, X₁.bytes, X₁.same.trans (hsame.setVm s.vm)⟩
  have hBh : B.heap = s₂.heap := by rw [hB]; rfl
  have hclE : s.vm.findClass En = some ce.cls := by
    have h9 : U.vm.findClass En = some ce.cls := hcc
    rw [X₁.warmed.alike.findClass] at h9
    exact h9
  obtain ⟨vm1, hWm, hgo⟩ := zx_catch XB (g := g) hgm (q := bs + S.2.1) (ce := ce) (by rw [hBh]; exact hce) hcv C.2.2.2.1 hclE hx1 (by
    have h8 : x0 ≤ pc ∧ pc < x1 := ⟨hc0, hc1⟩
    simp only [covers, hgp, e0, e1]
    simp [h8.1, h8.2]) (by rw [e3]; exact hct) (by rw [e3]; exact W5 _ hlE)
  have hUc : ((U.setTop g).pushFrame (Frame.invoking mk (Value.ref (bs + b) :: As).toArray)).heap = H := hUh
  rw [hUc] at hz2 hkeep
  obtain ⟨t2, a1, b1⟩ := kk B.heap (locs ++ L) ls (by rw [hBh]; exact hrep) ⟨Nat.le_trans hS.1 (by rw [hBh]; exact hz2), fun q h1 h2 => by rw [hBh, hkeep q (Nat.lt_of_lt_of_le h1 hS.1) h2]; exact hS.2.1 q h1 h2, fun q hq => by
      rcases List.mem_append.mp hq with h | h
      · exact hS.2.2 q h
      · exact hL q h⟩ hl (B.setVm vm1) rfl (XB.noted hWm)
  refine ⟨t2, hst1 _ fun acts => ?_, b1⟩
  rw [doInvoke_state]
  refine hsteps.trans ?_
  rw [hs₂]
  refine hgo _ ?_
  have hgg : ({ g with pc := x.handlerPc, stack := [.ref (bs + S.2.1)] } : JFrame) = F0 m hp ls [.ref (bs + S.2.1)] := by rw [hgdef, e2]
  rw [hgg]
  exact a1
end ZXE
/-- the contract of a method with a table of handlers, out of its walk -/
theorem zz_metW {l : Launch} {y : MethodName} {bytes : ByteArray} {maxL fr lo mc ms : Nat} {ret : Option FieldType} {hh : List (Nat × Nat × Nat × Nat)} {D : zzD} {bs : Nat} {A : Nat → Prop} {S S2 : zzS} {M M2 : zzM} {hz hz2 : Nat} {res : Option Value} (av : List Value) (hy : plainName y.cls = true) (hav : (lg_sl av).length ≤ maxL)
    (body : ∀ (p : Program) (e : Env) (s : State) (m : MethodId) (args : Array Value) (below : List Frame) (meth : Method) (c : Code), zzC p s m args c bytes y.cls maxL D → meth.sig.returnType = ret → meth.locks = false → meth.name = y.name → s.heap.size = hz → zzB p l e { frames := fr, cells := mc, slots := ms, locals := lo } s m args below meth c maxL D bs A (MQ below (zzQc D bs A S2 M2 hz2 res) args s mc ms A) 0 0 S M hz 0 (lv_args 0 av) []) :
    Met l y (Cond.codeWith y bytes maxL ret hh :: zzW) { frames := fr, cells := mc, slots := ms, locals := lo } (zzPc D bs A S M hz av) (zzQc D bs A S2 M2 hz2 res) mc ms A := by
  refine va_MetW (cc := bytes) (maxL := maxL) (ret := ret) (hh := hh) hy rfl ?_
  intro p e s m args below meth c s₁ B hml hv
  obtain ⟨rfl, hR, hK⟩ := hv
  have hts := atoms_spec (ws := Cond.codeWith y bytes maxL ret hh :: zzW) B.pre
  have hl := lv_entry av (n := maxL) hav
  rw [lg_entry_eq]
  exact body p e s m _ below meth c ⟨B.exec, B.bytes, hml, findClass_of_methodNamed B.named, fun w hw => hts w (List.mem_cons_of_mem _ hw), hK⟩ B.returns B.notSynchronized (name_of_methodNamed B.named B.method).1 hR.1 s.heap [] _ hR va_S.rf hl
/-- the same, where the start's part X is asked, and the table stands -/
theorem zz_metWX {l : Launch} {y : MethodName} {bytes : ByteArray} {maxL fr lo mc ms : Nat} {ret : Option FieldType} {hh : List (Nat × Nat × Nat × Nat)} {D : zzD} {bs : Nat} {A : Nat → Prop} {X : State → Prop} {S S2 : zzS} {M M2 : zzM} {hz2 : Nat} {res : Option Value} (av : List Value) (hy : plainName y.cls = true) (hav : (lg_sl av).length ≤ maxL)
    (body : ∀ (p : Program) (e : Env) (s : State) (m : MethodId) (args : Array Value) (below : List Frame) (meth : Method) (c : Code), zzC p s m args c bytes y.cls maxL D → meth.sig.returnType = ret → meth.locks = false → c.exceptionTable.toList.map (fun h => (h.startPc, h.endPc, h.handlerPc, h.catchType)) = hh → X s → s.heap.size = bs + S.2.1 → zzB p l e { frames := fr, cells := mc, slots := ms, locals := lo } s m args below meth c maxL D bs A (MQ below (zzQc D bs A S2 M2 hz2 res) args s mc ms A) 0 0 S M (bs + S.2.1) 0 (lv_args 0 av) []) :
    Met l y (Cond.codeWith y bytes maxL ret hh :: zzW) { frames := fr, cells := mc, slots := ms, locals := lo } (zzPcX D bs A X S M av) (zzQc D bs A S2 M2 hz2 res) mc ms A := by
  refine va_MetW (cc := bytes) (maxL := maxL) (ret := ret) (hh := hh) hy rfl ?_
  intro p e s m args below meth c s₁ B hml hv
  obtain ⟨rfl, hR, hK, hX⟩ := hv
  have hts := atoms_spec (ws := Cond.codeWith y bytes maxL ret hh :: zzW) B.pre
  have ht : c.exceptionTable.toList.map (fun h => (h.startPc, h.endPc, h.handlerPc, h.catchType)) = hh := by
    obtain ⟨m9, meth9, c9, hn9, h1, h2, -, -, h5, -⟩ := Cond.codeWith_spec (hts _ List.mem_cons_self)
    cases hn9.symm.trans B.named
    cases Option.some.inj (h1.symm.trans B.method)
    cases Option.some.inj (h2.symm.trans (Stand.of_body B).code)
    exact h5
  have hl := lv_entry av (n := maxL) hav
  rw [lg_entry_eq]
  exact body p e s m _ below meth c ⟨B.exec, B.bytes, hml, findClass_of_methodNamed B.named, fun w hw => hts w (List.mem_cons_of_mem _ hw), hK⟩ B.returns B.notSynchronized ht hX hR.1 s.heap [] _ hR va_S.rf hl
