/-! making cells: a new cell is the next number; its rows are 0, 0, null -/
def zznew (S : zzS) (kind len sl : Nat) : zzS := (fun a => if a = S.2.1 then (kind, len) else S.1 a, S.2.1 + 1, S.2.2 + sl)
def zzclr (M : zzM) (a : Nat) : zzM := ((fun b => if b = a then (fun _ => 0) else M.1 b), (fun b => if b = a then (fun _ => 0) else M.2.1 b), (fun b => if b = a then (fun _ => none) else M.2.2 b))
def zzfin {ρ : Type} (S1 : zzS) (x : Option (ρ × zzS × zzM)) : Option (ρ × zzS × zzM) := match x with
  | some o => if S1.2.1 ≤ o.2.1.2.1 ∧ S1.2.2 ≤ o.2.1.2.2 then some o else none
  | none => none
def zzmk {ρ : Type} (S : zzS) (M : zzM) (kind len sl : Nat) (K : Nat → zzS → zzM → Option (ρ × zzS × zzM)) : Option (ρ × zzS × zzM) := zzfin (zznew S kind len sl) (K S.2.1 (zznew S kind len sl) (zzclr M S.2.1))
def zzcallA {α ρ : Type} (S : zzS) (o : Option (α × zzS × zzM)) (K : α → zzS → zzM → Option (ρ × zzS × zzM)) : Option (ρ × zzS × zzM) := match o with
  | some q => if S.2.1 ≤ q.2.1.2.1 ∧ S.2.2 ≤ q.2.1.2.2 then zzfin q.2.1 (K q.1 q.2.1 q.2.2) else none
  | none => none
def zzhas (S : zzS) (b t : Nat) : Bool := decide (b < S.2.1 ∧ zzk S b = t)
def zznn (n : Int32) : Bool := decide (¬ n < 0 ∧ n.toNatClampNeg ≤ 100000)
theorem zzfin_e {ρ : Type} {S1 : zzS} {x : Option (ρ × zzS × zzM)} {o : ρ × zzS × zzM} (h : zzfin S1 x = some o) : x = some o ∧ S1.2.1 ≤ o.2.1.2.1 ∧ S1.2.2 ≤ o.2.1.2.2 := by
  cases x with
  | none => cases h
  | some y =>
    unfold zzfin at h
    dsimp only at h
    by_cases hb : S1.2.1 ≤ y.2.1.2.1 ∧ S1.2.2 ≤ y.2.1.2.2
    · rw [if_pos hb] at h; cases h; exact ⟨rfl, hb⟩
    · rw [if_neg hb] at h; cases h
theorem zzcallA_e {α ρ : Type} {S : zzS} {q : Option (α × zzS × zzM)} {K : α → zzS → zzM → Option (ρ × zzS × zzM)} {o : ρ × zzS × zzM} (h : zzcallA S q K = some o) : ∃ r S1 M1, q = some (r, S1, M1) ∧ S.2.1 ≤ S1.2.1 ∧ S.2.2 ≤ S1.2.2 ∧ S1.2.1 ≤ o.2.1.2.1 ∧ S1.2.2 ≤ o.2.1.2.2 ∧ K r S1 M1 = some o := by
  cases q with
  | none => cases h
  | some y =>
    obtain ⟨r, S1, M1⟩ := y
    unfold zzcallA at h
    dsimp only at h
    by_cases hb : S.2.1 ≤ S1.2.1 ∧ S.2.2 ≤ S1.2.2
    · rw [if_pos hb] at h
      obtain ⟨h1, h2, h3⟩ := zzfin_e h
      exact ⟨r, S1, M1, rfl, hb.1, hb.2, h2, h3, h1⟩
    · rw [if_neg hb] at h; cases h
theorem zzAt.kept2 {D : zzD} {bs : Nat} {S S1 : zzS} {M M' : zzM} {H H' : Heap} {a : Nat} (h : zzAt D bs S M H a) (hS : S1.1 a = S.1 a) (h1 : H'[bs + a]? = H[bs + a]?) (hM : zzsame M M' a) : zzAt D bs S1 M' H' a := by
  have e1 : zzk S1 a = zzk S a := by unfold zzk; rw [hS]
  have e2 : zzn S1 a = zzn S a := by unfold zzn; rw [hS]
  have h := h.kept h1 hM
  unfold zzAt at h ⊢
  rw [e1, e2]
  exact h
theorem zznew_at {S : zzS} {kind len sl : Nat} : (zznew S kind len sl).1 S.2.1 = (kind, len) := by simp [zznew]
theorem zznew_o {S : zzS} {kind len sl a : Nat} (h : a ≠ S.2.1) : (zznew S kind len sl).1 a = S.1 a := by simp [zznew, h]
theorem zzclr_o {M : zzM} {a b : Nat} (h : b ≠ a) : zzsame M (zzclr M a) b := by simp [zzsame, zzclr, h]
theorem zzRep.push {D : zzD} {bs : Nat} {A : Nat → Prop} {S : zzS} {M : zzM} {H H1 : Heap} {kind len sl : Nat} (h : zzRep D bs A S M (bs + S.2.1) H) (z : H1.size = bs + S.2.1 + 1) (o : ∀ q : Nat, q < bs + S.2.1 → H1[q]? = H[q]?) (hA : A (bs + S.2.1)) (hn : zzAt D bs (zznew S kind len sl) (zzclr M S.2.1) H1 S.2.1) : zzRep D bs A (zznew S kind len sl) (zzclr M S.2.1) (bs + (zznew S kind len sl).2.1) H1 := by
  refine ⟨by rw [z]; show _ = bs + (S.2.1 + 1); omega, fun b hb hk => ?_⟩
  have hb' : b < S.2.1 + 1 := hb
  by_cases hbn : b = S.2.1
  · subst hbn; exact ⟨hA, hn⟩
  · have hkk : zzk S b ≠ 0 := by
      unfold zzk at hk ⊢
      rw [zznew_o hbn] at hk; exact hk
    obtain ⟨h1, h2⟩ := h.2 b (by omega) hkk
    exact ⟨h1, h2.kept2 (zznew_o hbn) (o _ (by omega)) (zzclr_o hbn)⟩
theorem zz_bytes {n k : Nat} (h : n ≤ 100000) (hk : k ≤ 8) : n * k ≤ 536870912 := Nat.le_trans (Nat.mul_le_mul h hk) (by decide)
def zzAOJ (U : State) : Prop := (Cond.arrayOver (.array .long)).before #[] U = true
def zz0 : zzM := (fun _ _ => 0, fun _ _ => 0, fun _ _ => none)
theorem zzval_clr (ty : FieldType) (bs : Nat) (M : zzM) (a k : Nat) : zzval ty bs (zzclr M a) a k = zzval ty 0 zz0 0 k := by
  cases ty <;> simp [zzval, zzclr, zz0, zzI, zzL, zzR, zzrf, va_rf]
/-- what may be asked of the start below the region, and stays -/
def zzStab (bs : Nat) (X : State → Prop) : Prop := (∀ u U : State, X u → u.WarmedH U.vm → (∀ q : Nat, q < bs → U.heap[q]? = u.heap[q]?) → X U) ∧ (∀ (U : State) (g : JFrame) (mk : MethodId) (a : Array Value), X U → X (U.calling g mk a))
def zzPcX (D : zzD) (bs : Nat) (A : Nat → Prop) (X : State → Prop) (S : zzS) (M : zzM) (av : List Value) : Array Value → State → Prop := va_Pc av (fun U => zzRep D bs A S M (bs + S.2.1) U.heap ∧ zzK D U ∧ X U)
theorem zzPcX.blind {D : zzD} {bs : Nat} {A : Nat → Prop} {X : State → Prop} {S : zzS} {M : zzM} {av : List Value} (hX : zzStab bs X) : FrameBlind (zzPcX D bs A X S M av) := fun a U g mk q => by
  obtain ⟨q0, q1, q2, q3⟩ := q
  exact ⟨q0, q1, zzK.moved (u := U) (U := U.calling g mk a) (Vm.Alike.refl U.vm) q2, hX.2 U g mk a q3⟩
/-- the frame of a making method: entry shape S0, what the region's free cells are, the asked part of the start -/
def zzE (s : State) (R : Room) (bs : Nat) (A : Nat → Prop) (X : State → Prop) (S0 So : zzS) : Prop := (∀ q : Nat, s.heap.size ≤ q → A q) ∧ s.heap.size = bs + S0.2.1 ∧ R.cells = So.2.1 - S0.2.1 ∧ R.slots = So.2.2 - S0.2.2 ∧ X s ∧ zzStab bs X ∧ ∀ q : Nat, A q → bs ≤ q
def zzle (S S1 : zzS) : Prop := S.2.1 ≤ S1.2.1 ∧ S.2.2 ≤ S1.2.2
section ZA
variable {p : Program} {l : Launch} {e : Env} {R : Room} {s : State} {m : MethodId} {args : Array Value} {below : List Frame} {meth : Method} {c : Code} {Q : State → Prop} {cc : ByteArray} {own : String} {nL : Nat} {D : zzD} {bs : Nat} {A : Nat → Prop} {S S0 : zzS} {M : zzM} {pc : Nat} {lv lv' : List (Nat × Value)} {st : List Value} {ρ : Type} {out : ρ × zzS × zzM} {X : State → Prop}
theorem zi_new (C : zzC p s m args c cc own nL D) (E : zzE s R bs A X S0 out.2.1) (hm : zzle S0 S) {ci N index : Nat} {Cn : String} {T : u_T} (hc : zzCls ci Cn T N) (hdv : ∀ k, k < N → defaultValue (zzty ci k) = zzval (zzty ci k) 0 zz0 0 k) (hcl : Cond.classLink own index Cn ∈ zzW) (hinst : Cond.instantiable Cn N ∈ zzW) (hini : Cond.initialized Cn ∈ zzW) (d : decode cc pc = .ok (.new index, 3)) {K : Nat → zzS → zzM → Option (ρ × zzS × zzM)} (hF : zzmk S M (10 + ci) 0 N K = some out) (kk : ∀ b S1 M1, b < S1.2.1 → zzk S1 b = 10 + ci → zzle S0 S1 → zzle S1 out.2.1 → K b S1 M1 = some out → zzB p l e R s m args below meth c nL D bs A Q (S1.2.1 - S0.2.1) (S1.2.2 - S0.2.2) S1 M1 (bs + S1.2.1) (pc + 3) lv (.ref (bs + b) :: st)) : zzB p l e R s m args below meth c nL D bs A Q (S.2.1 - S0.2.1) (S.2.2 - S0.2.2) S M (bs + S.2.1) pc lv st := by
  intro H locs ls hR hS hl
  obtain ⟨hA, hs, hRc, hRs, hX, hXs, hAb⟩ := E
  obtain ⟨hF, g1, g2⟩ := zzfin_e hF
  have g1' : S.2.1 + 1 ≤ out.2.1.2.1 := g1
  have g2' : S.2.2 + N ≤ out.2.1.2.2 := g2
  obtain ⟨h0, h1, h2, h3⟩ := hc
  have hKn := C.2.2.2.2.2.1 ci _ h0
  have hm1 := hm.1
  have hm2 := hm.2
  refine W.newcK C.1 C.2.1 C.2.2.2.1 (C.2.2.2.2.1 _ hcl) (C.2.2.2.2.1 _ hinst) (C.2.2.2.2.1 _ hini) rfl d (by rw [hRc]; omega) (by rw [hRs]; omega) hKn.2.1 hR.1 fun H1 kC hkC e1 z1 o1 => ?_
  refine W.cs (cells' := (zznew S (10 + ci) 0 N).2.1 - S0.2.1) (slots' := (zznew S (10 + ci) 0 N).2.2 - S0.2.2) (by show _ = S.2.1 + 1 - S0.2.1; omega) (by show _ = S.2.2 + N - S0.2.2; omega) ?_
  have hkn : zzk (zznew S (10 + ci) 0 N) S.2.1 = 10 + ci := by unfold zzk; rw [zznew_at]
  refine kk S.2.1 (zznew S (10 + ci) 0 N) (zzclr M S.2.1) (by show _ < S.2.1 + 1; omega) hkn ⟨by show _ ≤ S.2.1 + 1; omega, by show _ ≤ S.2.2 + N; omega⟩ ⟨g1, g2⟩ hF H1 locs ls (hR.push z1 o1 (hA _ (by omega)) (zzRep.toObj hkn h0 ?_)) ⟨by have := hS.1; have := hR.1; omega, fun q w1 w2 => by
      rw [o1 q (by omega)]; exact hS.2.1 q w1 w2, hS.2.2⟩ hl
  exact (u_born (fun k => zzty ci k) C.2.2.2.2.1 h1 hKn hkC e1 h2).to (fun k hk => by rw [zzval_clr]; exact hdv k hk)
theorem zi_newarr_int (C : zzC p s m args c cc own nL D) (E : zzE s R bs A X S0 out.2.1) (hm : zzle S0 S) {n : Int32} (hac : Cond.arrayClass .int ∈ zzW) (d : decode cc pc = .ok (.newarray .int, 2)) {K : Nat → zzS → zzM → Option (ρ × zzS × zzM)} (hF : zzck (zznn n) (zzmk S M 1 n.toNatClampNeg n.toNatClampNeg K) = some out) (kk : ∀ b S1 M1, b < S1.2.1 → zzk S1 b = 1 → zzle S0 S1 → zzle S1 out.2.1 → K b S1 M1 = some out → zzB p l e R s m args below meth c nL D bs A Q (S1.2.1 - S0.2.1) (S1.2.2 - S0.2.2) S1 M1 (bs + S1.2.1) (pc + 2) lv (.ref (bs + b) :: st)) : zzB p l e R s m args below meth c nL D bs A Q (S.2.1 - S0.2.1) (S.2.2 - S0.2.2) S M (bs + S.2.1) pc lv (.int n :: st) := by
  intro H locs ls hR hS hl
  obtain ⟨hA, hs, hRc, hRs, hX, hXs, hAb⟩ := E
  obtain ⟨hn, hF⟩ := zzck_e hF
  obtain ⟨n1, n2⟩ := of_decide_eq_true hn
  obtain ⟨hF, g1, g2⟩ := zzfin_e hF
  have g1' : S.2.1 + 1 ≤ out.2.1.2.1 := g1
  have g2' : S.2.2 + n.toNatClampNeg ≤ out.2.1.2.2 := g2
  have hm1 := hm.1
  have hm2 := hm.2
  refine va_newaK (atype := .int) C.1 C.2.1 (C.2.2.2.2.1 _ hac) rfl d rfl n1 rfl (zz_bytes n2 (by decide)) (by rw [hRc]; omega) (by rw [hRs]; omega) hR.1 fun H1 cA e1 z1 o1 hAr hNm => ?_
  refine W.cs (cells' := (zznew S 1 n.toNatClampNeg n.toNatClampNeg).2.1 - S0.2.1) (slots' := (zznew S 1 n.toNatClampNeg n.toNatClampNeg).2.2 - S0.2.2) (by show _ = S.2.1 + 1 - S0.2.1; omega) (by show _ = S.2.2 + n.toNatClampNeg - S0.2.2; omega) ?_
  have hkn : zzk (zznew S 1 n.toNatClampNeg n.toNatClampNeg) S.2.1 = 1 := by unfold zzk; rw [zznew_at]
  have hcA : cA = D.2.2 1 := Option.some.inj (hNm.symm.trans (C.2.2.2.2.2.2 1 (by decide) (by decide)).2)
  refine kk S.2.1 (zznew S 1 n.toNatClampNeg n.toNatClampNeg) (zzclr M S.2.1) (by show _ < S.2.1 + 1; omega) hkn ⟨by show _ ≤ S.2.1 + 1; omega, by show _ ≤ S.2.2 + n.toNatClampNeg; omega⟩ ⟨g1, g2⟩ hF H1 locs ls (hR.push z1 o1 (hA _ (by omega)) (zzRep.toArr hkn (by decide) ?_)) ⟨by have := hS.1; have := hR.1; omega, fun q w1 w2 => by
      rw [o1 q (by omega)]; exact hS.2.1 q w1 w2, hS.2.2⟩ hl
  rw [e1, hcA]
  have hnn : zzn (zznew S 1 n.toNatClampNeg n.toNatClampNeg) S.2.1 = n.toNatClampNeg := by unfold zzn; rw [zznew_at]
  rw [hnn, zzel_1]
  congr 2
  funext j
  simp [zzclr, zzI, zzL, defaultValue, newarray.typeOf]
theorem zi_newarr_long (C : zzC p s m args c cc own nL D) (E : zzE s R bs A X S0 out.2.1) (hm : zzle S0 S) {n : Int32} (hac : Cond.arrayClass .long ∈ zzW) (d : decode cc pc = .ok (.newarray .long, 2)) {K : Nat → zzS → zzM → Option (ρ × zzS × zzM)} (hF : zzck (zznn n) (zzmk S M 2 n.toNatClampNeg n.toNatClampNeg K) = some out) (kk : ∀ b S1 M1, b < S1.2.1 → zzk S1 b = 2 → zzle S0 S1 → zzle S1 out.2.1 → K b S1 M1 = some out → zzB p l e R s m args below meth c nL D bs A Q (S1.2.1 - S0.2.1) (S1.2.2 - S0.2.2) S1 M1 (bs + S1.2.1) (pc + 2) lv (.ref (bs + b) :: st)) : zzB p l e R s m args below meth c nL D bs A Q (S.2.1 - S0.2.1) (S.2.2 - S0.2.2) S M (bs + S.2.1) pc lv (.int n :: st) := by
  intro H locs ls hR hS hl
  obtain ⟨hA, hs, hRc, hRs, hX, hXs, hAb⟩ := E
  obtain ⟨hn, hF⟩ := zzck_e hF
  obtain ⟨n1, n2⟩ := of_decide_eq_true hn
  obtain ⟨hF, g1, g2⟩ := zzfin_e hF
  have g1' : S.2.1 + 1 ≤ out.2.1.2.1 := g1
  have g2' : S.2.2 + n.toNatClampNeg ≤ out.2.1.2.2 := g2
  have hm1 := hm.1
  have hm2 := hm.2
  refine va_newaK (atype := .long) C.1 C.2.1 (C.2.2.2.2.1 _ hac) rfl d rfl n1 rfl (zz_bytes n2 (by decide)) (by rw [hRc]; omega) (by rw [hRs]; omega) hR.1 fun H1 cA e1 z1 o1 hAr hNm => ?_
  refine W.cs (cells' := (zznew S 2 n.toNatClampNeg n.toNatClampNeg).2.1 - S0.2.1) (slots' := (zznew S 2 n.toNatClampNeg n.toNatClampNeg).2.2 - S0.2.2) (by show _ = S.2.1 + 1 - S0.2.1; omega) (by show _ = S.2.2 + n.toNatClampNeg - S0.2.2; omega) ?_
  have hkn : zzk (zznew S 2 n.toNatClampNeg n.toNatClampNeg) S.2.1 = 2 := by unfold zzk; rw [zznew_at]
  have hcA : cA = D.2.2 2 := Option.some.inj (hNm.symm.trans (C.2.2.2.2.2.2 2 (by decide) (by decide)).2)
  refine kk S.2.1 (zznew S 2 n.toNatClampNeg n.toNatClampNeg) (zzclr M S.2.1) (by show _ < S.2.1 + 1; omega) hkn ⟨by show _ ≤ S.2.1 + 1; omega, by show _ ≤ S.2.2 + n.toNatClampNeg; omega⟩ ⟨g1, g2⟩ hF H1 locs ls (hR.push z1 o1 (hA _ (by omega)) (zzRep.toArr hkn (by decide) ?_)) ⟨by have := hS.1; have := hR.1; omega, fun q w1 w2 => by
      rw [o1 q (by omega)]; exact hS.2.1 q w1 w2, hS.2.2⟩ hl
  rw [e1, hcA]
  have hnn : zzn (zznew S 2 n.toNatClampNeg n.toNatClampNeg) S.2.1 = n.toNatClampNeg := by unfold zzn; rw [zznew_at]
  rw [hnn, zzel_2]
  congr 2
  funext j
  simp [zzclr, zzI, zzL, defaultValue, newarray.typeOf]
theorem zi_newarr_char (C : zzC p s m args c cc own nL D) (E : zzE s R bs A X S0 out.2.1) (hm : zzle S0 S) {n : Int32} (hac : Cond.arrayClass .char ∈ zzW) (d : decode cc pc = .ok (.newarray .char, 2)) {K : Nat → zzS → zzM → Option (ρ × zzS × zzM)} (hF : zzck (zznn n) (zzmk S M 3 n.toNatClampNeg n.toNatClampNeg K) = some out) (kk : ∀ b S1 M1, b < S1.2.1 → zzk S1 b = 3 → zzle S0 S1 → zzle S1 out.2.1 → K b S1 M1 = some out → zzB p l e R s m args below meth c nL D bs A Q (S1.2.1 - S0.2.1) (S1.2.2 - S0.2.2) S1 M1 (bs + S1.2.1) (pc + 2) lv (.ref (bs + b) :: st)) : zzB p l e R s m args below meth c nL D bs A Q (S.2.1 - S0.2.1) (S.2.2 - S0.2.2) S M (bs + S.2.1) pc lv (.int n :: st) := by
  intro H locs ls hR hS hl
  obtain ⟨hA, hs, hRc, hRs, hX, hXs, hAb⟩ := E
  obtain ⟨hn, hF⟩ := zzck_e hF
  obtain ⟨n1, n2⟩ := of_decide_eq_true hn
  obtain ⟨hF, g1, g2⟩ := zzfin_e hF
  have g1' : S.2.1 + 1 ≤ out.2.1.2.1 := g1
  have g2' : S.2.2 + n.toNatClampNeg ≤ out.2.1.2.2 := g2
  have hm1 := hm.1
  have hm2 := hm.2
  refine va_newaK (atype := .char) C.1 C.2.1 (C.2.2.2.2.1 _ hac) rfl d rfl n1 rfl (zz_bytes n2 (by decide)) (by rw [hRc]; omega) (by rw [hRs]; omega) hR.1 fun H1 cA e1 z1 o1 hAr hNm => ?_
  refine W.cs (cells' := (zznew S 3 n.toNatClampNeg n.toNatClampNeg).2.1 - S0.2.1) (slots' := (zznew S 3 n.toNatClampNeg n.toNatClampNeg).2.2 - S0.2.2) (by show _ = S.2.1 + 1 - S0.2.1; omega) (by show _ = S.2.2 + n.toNatClampNeg - S0.2.2; omega) ?_
  have hkn : zzk (zznew S 3 n.toNatClampNeg n.toNatClampNeg) S.2.1 = 3 := by unfold zzk; rw [zznew_at]
  have hcA : cA = D.2.2 3 := Option.some.inj (hNm.symm.trans (C.2.2.2.2.2.2 3 (by decide) (by decide)).2)
  refine kk S.2.1 (zznew S 3 n.toNatClampNeg n.toNatClampNeg) (zzclr M S.2.1) (by show _ < S.2.1 + 1; omega) hkn ⟨by show _ ≤ S.2.1 + 1; omega, by show _ ≤ S.2.2 + n.toNatClampNeg; omega⟩ ⟨g1, g2⟩ hF H1 locs ls (hR.push z1 o1 (hA _ (by omega)) (zzRep.toArr hkn (by decide) ?_)) ⟨by have := hS.1; have := hR.1; omega, fun q w1 w2 => by
      rw [o1 q (by omega)]; exact hS.2.1 q w1 w2, hS.2.2⟩ hl
  rw [e1, hcA]
  have hnn : zzn (zznew S 3 n.toNatClampNeg n.toNatClampNeg) S.2.1 = n.toNatClampNeg := by unfold zzn; rw [zznew_at]
  rw [hnn, zzel_3]
  congr 2
  funext j
  simp [zzclr, zzI, zzL, defaultValue, newarray.typeOf]
theorem zi_anew (C : zzC p s m args c cc own nL D) (E : zzE s R bs A X S0 out.2.1) (hm : zzle S0 S) {n : Int32} {index : Nat} (hcl : Cond.classLink own index "BoardScript$Statement" ∈ zzW) (hov : X s → va_AO "BoardScript$Statement" s) (d : decode cc pc = .ok (.anewarray index, 3)) {K : Nat → zzS → zzM → Option (ρ × zzS × zzM)} (hF : zzck (zznn n) (zzmk S M 4 n.toNatClampNeg n.toNatClampNeg K) = some out) (kk : ∀ b S1 M1, b < S1.2.1 → zzk S1 b = 4 → zzle S0 S1 → zzle S1 out.2.1 → K b S1 M1 = some out → zzB p l e R s m args below meth c nL D bs A Q (S1.2.1 - S0.2.1) (S1.2.2 - S0.2.2) S1 M1 (bs + S1.2.1) (pc + 3) lv (.ref (bs + b) :: st)) : zzB p l e R s m args below meth c nL D bs A Q (S.2.1 - S0.2.1) (S.2.2 - S0.2.2) S M (bs + S.2.1) pc lv (.int n :: st) := by
  intro H locs ls hR hS hl
  obtain ⟨hA, hs, hRc, hRs, hX, hXs, hAb⟩ := E
  obtain ⟨hn, hF⟩ := zzck_e hF
  obtain ⟨n1, n2⟩ := of_decide_eq_true hn
  obtain ⟨hF, g1, g2⟩ := zzfin_e hF
  have g1' : S.2.1 + 1 ≤ out.2.1.2.1 := g1
  have g2' : S.2.2 + n.toNatClampNeg ≤ out.2.1.2.2 := g2
  have hm1 := hm.1
  have hm2 := hm.2
  refine W.anew C.1 C.2.1 C.2.2.2.1 (C.2.2.2.2.1 _ hcl) (va_AO.use (hov hX)) rfl d rfl n1 (by omega) (by rw [hRc]; omega) (by rw [hRs]; omega) fun cA kA comp f1 f2 f3 f4 => ?_
  refine W.cs (cells' := (zznew S 4 n.toNatClampNeg n.toNatClampNeg).2.1 - S0.2.1) (slots' := (zznew S 4 n.toNatClampNeg n.toNatClampNeg).2.2 - S0.2.2) (by show _ = S.2.1 + 1 - S0.2.1; omega) (by show _ = S.2.2 + n.toNatClampNeg - S0.2.2; omega) ?_
  have hkn : zzk (zznew S 4 n.toNatClampNeg n.toNatClampNeg) S.2.1 = 4 := by unfold zzk; rw [zznew_at]
  obtain ⟨kA', comp', a1, a2, a3, a4⟩ := (C.2.2.2.2.2.2 4 (by decide) (by decide)).2
  have hcA : cA = D.2.2 4 := Option.some.inj (f1.symm.trans a4)
  have hsz := hR.1
  rw [hsz]
  refine kk S.2.1 (zznew S 4 n.toNatClampNeg n.toNatClampNeg) (zzclr M S.2.1) (by show _ < S.2.1 + 1; omega) hkn ⟨by show _ ≤ S.2.1 + 1; omega, by show _ ≤ S.2.2 + n.toNatClampNeg; omega⟩ ⟨g1, g2⟩ hF _ locs ls (hR.push (by simp; omega) (fun q hq => by rw [Array.getElem?_push, if_neg (by omega)]) (hA _ (by omega)) (zzRep.toArr hkn (by decide) ?_)) ⟨by have := hS.1; simp; omega, fun q w1 w2 => by
      rw [Array.getElem?_push, if_neg (by omega)]; exact hS.2.1 q w1 w2, hS.2.2⟩ hl
  rw [arrV_new, hcA, ← hsz]
  have hnn : zzn (zznew S 4 n.toNatClampNeg n.toNatClampNeg) S.2.1 = n.toNatClampNeg := by unfold zzn; rw [zznew_at]
  rw [hnn, zzel_4]
  simp only [Array.getElem?_push_size]
  congr 2
  funext j
  simp [zzclr, zzR, zzrf, va_rf]
theorem zzB_cs {cells slots cells' slots' hz : Nat} (h1 : cells = cells') (h2 : slots = slots') (k : zzB p l e R s m args below meth c nL D bs A Q cells' slots' S M hz pc lv st) : zzB p l e R s m args below meth c nL D bs A Q cells slots S M hz pc lv st := by subst h1; subst h2; exact k
theorem zz_hf (hm : zzle S0 S) (ho : zzle S out.2.1) : S.2.1 - S0.2.1 + 0 ≤ out.2.1.2.1 - S0.2.1 ∧ S.2.2 - S0.2.2 + 0 ≤ out.2.1.2.2 - S0.2.2 := by
  have h1 := hm.1; have h2 := hm.2; have h3 := ho.1; have h4 := ho.2
  exact ⟨by omega, by omega⟩
theorem zi_callAV (C : zzC p s m args c cc own nL D) (E : zzE s R bs A X S0 out.2.1) (hm : zzle S0 S) {y : MethodName} {bytes : ByteArray} {maxL index n fr lo ci N b : Nat} {T : u_T} {S1 : zzS} {M1 : zzM} {res : Option Value} {ret : Option FieldType} {As stk : List Value} (hM : Met l y (Cond.code y bytes maxL ret :: zzW) { frames := fr, cells := S1.2.1 - S.2.1, slots := S1.2.2 - S.2.2, locals := lo } (zzPcX D bs A X S M (Value.ref (bs + b) :: As)) (zzQc D bs A S1 M1 (bs + S1.2.1) res) (S1.2.1 - S.2.1) (S1.2.2 - S.2.2) A) (h1 : S.2.1 ≤ S1.2.1) (h2 : S.2.2 ≤ S1.2.2) (h3 : S1.2.1 ≤ out.2.1.2.1) (h4 : S1.2.2 ≤ out.2.1.2.2) (hcode : Cond.code y bytes maxL ret ∈ zzW) (hini : Cond.initialized y.cls ∈ zzW) (hd : y.cls ≠ "java/lang/invoke/MethodHandle" ∧ y.cls ≠ "java/lang/invoke/VarHandle" ∧ (parseMethodDescriptor y.desc).map (fun d => d.parameters.length) = some n) (hRm : fr + 1 ≤ R.frames ∧ 8 + (maxL + 11) + lo ≤ R.locals) (hn : As.length = n) (hw : (st.map fun v => v.category).sum ≤ 8) (hlink : Cond.methodLink own index y ∈ zzW) (hinst : Cond.instanceMethod y ∈ zzW) (hsel : Cond.selects y.cls y y ∈ zzW) (hcl : vwCl[ci]? = some (y.cls, T, N)) (ha : b < S.2.1) (hk : zzk S b = 10 + ci) (hstk : stk = As.reverse ++ .ref (bs + b) :: st) (d : decode cc pc = .ok (.invokevirtual index, 3)) (kk : zzle S0 S1 → zzle S1 out.2.1 → zzB p l e R s m args below meth c nL D bs A Q (S1.2.1 - S0.2.1) (S1.2.2 - S0.2.2) S1 M1 (bs + S1.2.1) (pc + 3) lv (res.toList ++ st)) : zzB p l e R s m args below meth c nL D bs A Q (S.2.1 - S0.2.1) (S.2.2 - S0.2.2) S M (bs + S.2.1) pc lv stk := by
  subst hstk
  intro H locs ls hR hS hl
  obtain ⟨hA, hs, hRc, hRs, hX, hXs, hAb⟩ := E
  have hm1 := hm.1
  have hm2 := hm.2
  have hcs : S.2.1 - S0.2.1 + (S1.2.1 - S.2.1) = S1.2.1 - S0.2.1 := by omega
  have hss : S.2.2 - S0.2.2 + (S1.2.2 - S.2.2) = S1.2.2 - S0.2.2 := by omega
  have hf : S.2.1 - S0.2.1 + (S1.2.1 - S.2.1) ≤ R.cells ∧ S.2.2 - S0.2.2 + (S1.2.2 - S.2.2) ≤ R.slots := by rw [hRc, hRs]; exact ⟨by omega, by omega⟩
  obtain ⟨-, cell, g1, g2, g3, -⟩ := hR.obj ha hk hcl
  have hfc := (C.2.2.2.2.2.1 ci _ hcl).2.1
  refine zz_after (va_runV (n := n) (bytes := bytes) (maxL := maxL) (ret := ret) (C := y.cls) (As := As) (rest := st) (nL := nL) (Ts := zzW) ⟨C.1, C.2.1, C.2.2.1, C.2.2.2.1, C.2.2.2.2.1⟩ hM ⟨callB_of (ws' := zzW) n C.2.2.2.2.1 (zz_good hcode) rfl rfl rfl (C.2.2.2.2.1 _ hini) (C.2.2.2.2.1 _ hlink) hd hRm, C.2.2.2.2.1 _ hinst, C.2.2.2.2.1 _ hsel⟩ ⟨zzPcX.blind hXs, ⟨cell, g1, by rw [g3]; rfl, by rw [g2]; exact hfc⟩, fun U hU hW => ⟨rfl, by rw [hU]; exact hR, C.2.2.2.2.2.moved hW.alike, hXs.1 s U hX hW (fun q hq => by rw [hU]; exact hS.2.1 q (by omega) (fun hq' => absurd (hAb q hq') (by omega)))⟩⟩ rfl hn hl.1 rfl (lv_room hw) d hf) hS hl (zzB_cs hcs hss (kk ⟨by omega, by omega⟩ ⟨h3, h4⟩))
theorem zi_callAS (C : zzC p s m args c cc own nL D) (E : zzE s R bs A X S0 out.2.1) (hm : zzle S0 S) {y : MethodName} {bytes : ByteArray} {maxL index n fr lo : Nat} {S1 : zzS} {M1 : zzM} {res : Option Value} {ret : Option FieldType} {As stk : List Value} (hM : Met l y (Cond.code y bytes maxL ret :: zzW) { frames := fr, cells := S1.2.1 - S.2.1, slots := S1.2.2 - S.2.2, locals := lo } (zzPcX D bs A X S M As) (zzQc D bs A S1 M1 (bs + S1.2.1) res) (S1.2.1 - S.2.1) (S1.2.2 - S.2.2) A) (h1 : S.2.1 ≤ S1.2.1) (h2 : S.2.2 ≤ S1.2.2) (h3 : S1.2.1 ≤ out.2.1.2.1) (h4 : S1.2.2 ≤ out.2.1.2.2) (hcode : Cond.code y bytes maxL ret ∈ zzW) (hini : Cond.initialized y.cls ∈ zzW) (hd : y.cls ≠ "java/lang/invoke/MethodHandle" ∧ y.cls ≠ "java/lang/invoke/VarHandle" ∧ (parseMethodDescriptor y.desc).map (fun d => d.parameters.length) = some n) (hRm : fr + 1 ≤ R.frames ∧ 8 + (maxL + 11) + lo ≤ R.locals) (hn : As.length = n) (hw : (st.map fun v => v.category).sum ≤ 8) (hlink : Cond.methodLink own index y ∈ zzW) (hst : Cond.static y ∈ zzW) (hstk : stk = As.reverse ++ st) (d : decode cc pc = .ok (.invokestatic index, 3)) (kk : zzle S0 S1 → zzle S1 out.2.1 → zzB p l e R s m args below meth c nL D bs A Q (S1.2.1 - S0.2.1) (S1.2.2 - S0.2.2) S1 M1 (bs + S1.2.1) (pc + 3) lv (res.toList ++ st)) : zzB p l e R s m args below meth c nL D bs A Q (S.2.1 - S0.2.1) (S.2.2 - S0.2.2) S M (bs + S.2.1) pc lv stk := by
  subst hstk
  intro H locs ls hR hS hl
  obtain ⟨hA, hs, hRc, hRs, hX, hXs, hAb⟩ := E
  have hm1 := hm.1
  have hm2 := hm.2
  have hcs : S.2.1 - S0.2.1 + (S1.2.1 - S.2.1) = S1.2.1 - S0.2.1 := by omega
  have hss : S.2.2 - S0.2.2 + (S1.2.2 - S.2.2) = S1.2.2 - S0.2.2 := by omega
  have hf : S.2.1 - S0.2.1 + (S1.2.1 - S.2.1) ≤ R.cells ∧ S.2.2 - S0.2.2 + (S1.2.2 - S.2.2) ≤ R.slots := by rw [hRc, hRs]; exact ⟨by omega, by omega⟩
  refine zz_after (va_runS (n := n) (bytes := bytes) (maxL := maxL) (ret := ret) (As := As) (rest := st) (nL := nL) (Ts := zzW) ⟨C.1, C.2.1, C.2.2.1, C.2.2.2.1, C.2.2.2.2.1⟩ hM ⟨callB_of (ws' := zzW) n C.2.2.2.2.1 (zz_good hcode) rfl rfl rfl (C.2.2.2.2.1 _ hini) (C.2.2.2.2.1 _ hlink) hd hRm, C.2.2.2.2.1 _ hst⟩ ⟨zzPcX.blind hXs, fun U hU hW => ⟨rfl, by rw [hU]; exact hR, C.2.2.2.2.2.moved hW.alike, hXs.1 s U hX hW (fun q hq => by rw [hU]; exact hS.2.1 q (by omega) (fun hq' => absurd (hAb q hq') (by omega)))⟩⟩ rfl hn hl.1 rfl (lv_room hw) d hf) hS hl (zzB_cs hcs hss (kk ⟨by omega, by omega⟩ ⟨h3, h4⟩))
theorem zi_callAI (C : zzC p s m args c cc own nL D) (E : zzE s R bs A X S0 out.2.1) (hm : zzle S0 S) {y : MethodName} {bytes : ByteArray} {maxL index n fr lo b : Nat} {S1 : zzS} {M1 : zzM} {As stk : List Value} (hM : Met l y (Cond.code y bytes maxL none :: zzW) { frames := fr, cells := S1.2.1 - S.2.1, slots := S1.2.2 - S.2.2, locals := lo } (zzPcX D bs A X S M (Value.ref (bs + b) :: As)) (zzQc D bs A S1 M1 (bs + S1.2.1) none) (S1.2.1 - S.2.1) (S1.2.2 - S.2.2) A) (h1 : S.2.1 ≤ S1.2.1) (h2 : S.2.2 ≤ S1.2.2) (h3 : S1.2.1 ≤ out.2.1.2.1) (h4 : S1.2.2 ≤ out.2.1.2.2) (hcode : Cond.code y bytes maxL none ∈ zzW) (hini : Cond.initialized y.cls ∈ zzW) (hd : y.cls ≠ "java/lang/invoke/MethodHandle" ∧ y.cls ≠ "java/lang/invoke/VarHandle" ∧ (parseMethodDescriptor y.desc).map (fun d => d.parameters.length) = some n) (hRm : fr + 1 ≤ R.frames ∧ 8 + (maxL + 11) + lo ≤ R.locals) (hn : As.length = n) (hw : (st.map fun v => v.category).sum ≤ 8) (hlink : Cond.methodLink own index y ∈ zzW) (hinst : Cond.instanceMethod y ∈ zzW) (hnm : y.name = "<init>") (hstk : stk = As.reverse ++ .ref (bs + b) :: st) (d : decode cc pc = .ok (.invokespecial index, 3)) (kk : zzle S0 S1 → zzle S1 out.2.1 → zzB p l e R s m args below meth c nL D bs A Q (S1.2.1 - S0.2.1) (S1.2.2 - S0.2.2) S1 M1 (bs + S1.2.1) (pc + 3) lv st) : zzB p l e R s m args below meth c nL D bs A Q (S.2.1 - S0.2.1) (S.2.2 - S0.2.2) S M (bs + S.2.1) pc lv stk := by
  subst hstk
  intro H locs ls hR hS hl
  obtain ⟨hA, hs, hRc, hRs, hX, hXs, hAb⟩ := E
  have hm1 := hm.1
  have hm2 := hm.2
  have hcs : S.2.1 - S0.2.1 + (S1.2.1 - S.2.1) = S1.2.1 - S0.2.1 := by omega
  have hss : S.2.2 - S0.2.2 + (S1.2.2 - S.2.2) = S1.2.2 - S0.2.2 := by omega
  have hf : S.2.1 - S0.2.1 + (S1.2.1 - S.2.1) ≤ R.cells ∧ S.2.2 - S0.2.2 + (S1.2.2 - S.2.2) ≤ R.slots := by rw [hRc, hRs]; exact ⟨by omega, by omega⟩
  refine zz_after (res := none) (va_runI (n := n) (bytes := bytes) (maxL := maxL) (As := As) (rest := st) (nL := nL) (Ts := zzW) ⟨C.1, C.2.1, C.2.2.1, C.2.2.2.1, C.2.2.2.2.1⟩ hM ⟨callB_of (ws' := zzW) n C.2.2.2.2.1 (zz_good hcode) rfl rfl rfl (C.2.2.2.2.1 _ hini) (C.2.2.2.2.1 _ hlink) hd hRm, hnm, C.2.2.2.2.1 _ hinst⟩ ⟨zzPcX.blind hXs, fun U hU hW => ⟨rfl, by rw [hU]; exact hR, C.2.2.2.2.2.moved hW.alike, hXs.1 s U hX hW (fun q hq => by rw [hU]; exact hS.2.1 q (by omega) (fun hq' => absurd (hAb q hq') (by omega)))⟩⟩ rfl hn hl.1 rfl (lv_room hw) d hf) hS hl (zzB_cs hcs hss (kk ⟨by omega, by omega⟩ ⟨h3, h4⟩))
theorem zi_callAIN (C : zzC p s m args c cc own nL D) (E : zzE s R bs A X S0 out.2.1) (hm : zzle S0 S) {y : MethodName} {bytes : ByteArray} {maxL index n fr lo b : Nat} {host : String} {S1 : zzS} {M1 : zzM} {As stk : List Value} (hM : Met l y (Cond.code y bytes maxL none :: zzW) { frames := fr, cells := S1.2.1 - S.2.1, slots := S1.2.2 - S.2.2, locals := lo } (zzPcX D bs A X S M (Value.ref (bs + b) :: As)) (zzQc D bs A S1 M1 (bs + S1.2.1) none) (S1.2.1 - S.2.1) (S1.2.2 - S.2.2) A) (h1 : S.2.1 ≤ S1.2.1) (h2 : S.2.2 ≤ S1.2.2) (h3 : S1.2.1 ≤ out.2.1.2.1) (h4 : S1.2.2 ≤ out.2.1.2.2) (hcode : Cond.code y bytes maxL none ∈ zzW) (hini : Cond.initialized y.cls ∈ zzW) (hd : y.cls ≠ "java/lang/invoke/MethodHandle" ∧ y.cls ≠ "java/lang/invoke/VarHandle" ∧ (parseMethodDescriptor y.desc).map (fun d => d.parameters.length) = some n) (hRm : fr + 1 ≤ R.frames ∧ 8 + (maxL + 11) + lo ≤ R.locals) (hn : As.length = n) (hw : (st.map fun v => v.category).sum ≤ 8) (hlink : X s → va_Nw (.methodLinkNest own index y host) s) (hinst : Cond.instanceMethod y ∈ zzW) (hnm : y.name = "<init>") (hstk : stk = As.reverse ++ .ref (bs + b) :: st) (d : decode cc pc = .ok (.invokespecial index, 3)) (kk : zzle S0 S1 → zzle S1 out.2.1 → zzB p l e R s m args below meth c nL D bs A Q (S1.2.1 - S0.2.1) (S1.2.2 - S0.2.2) S1 M1 (bs + S1.2.1) (pc + 3) lv st) : zzB p l e R s m args below meth c nL D bs A Q (S.2.1 - S0.2.1) (S.2.2 - S0.2.2) S M (bs + S.2.1) pc lv stk := by
  subst hstk
  intro H locs ls hR hS hl
  obtain ⟨hA, hs, hRc, hRs, hX, hXs, hAb⟩ := E
  have hm1 := hm.1
  have hm2 := hm.2
  have hcs : S.2.1 - S0.2.1 + (S1.2.1 - S.2.1) = S1.2.1 - S0.2.1 := by omega
  have hss : S.2.2 - S0.2.2 + (S1.2.2 - S.2.2) = S1.2.2 - S0.2.2 := by omega
  have hf : S.2.1 - S0.2.1 + (S1.2.1 - S.2.1) ≤ R.cells ∧ S.2.2 - S0.2.2 + (S1.2.2 - S.2.2) ≤ R.slots := by rw [hRc, hRs]; exact ⟨by omega, by omega⟩
  refine zz_after (res := none) (va_runIN (n := n) (bytes := bytes) (maxL := maxL) (As := As) (rest := st) (nL := nL) (Ts := zzW) ⟨C.1, C.2.1, C.2.2.1, C.2.2.2.1, C.2.2.2.2.1⟩ hM ⟨va_cnB (ws' := zzW) n C.2.2.2.2.1 (zz_good hcode) rfl rfl rfl (hlink hX) (C.2.2.2.2.1 _ hini) hd hRm, hnm, C.2.2.2.2.1 _ hinst⟩ ⟨zzPcX.blind hXs, fun U hU hW => ⟨rfl, by rw [hU]; exact hR, C.2.2.2.2.2.moved hW.alike, hXs.1 s U hX hW (fun q hq => by rw [hU]; exact hS.2.1 q (by omega) (fun hq' => absurd (hAb q hq') (by omega)))⟩⟩ rfl hn hl.1 rfl (lv_room hw) d hf) hS hl (zzB_cs hcs hss (kk ⟨by omega, by omega⟩ ⟨h3, h4⟩))
theorem zi_callI0 (C : zzC p s m args c cc own nL D) {cells slots hz : Nat} {y : MethodName} {bytes : ByteArray} {maxL index n fr lo b : Nat} {M2 : zzM} {As stk : List Value} (hM : Met l y (Cond.code y bytes maxL none :: zzW) { frames := fr, cells := 0, slots := 0, locals := lo } (zzPc D bs A S M hz (Value.ref (bs + b) :: As)) (zzQc D bs A S M2 hz none) 0 0 A) (hcode : Cond.code y bytes maxL none ∈ zzW) (hini : Cond.initialized y.cls ∈ zzW) (hd : y.cls ≠ "java/lang/invoke/MethodHandle" ∧ y.cls ≠ "java/lang/invoke/VarHandle" ∧ (parseMethodDescriptor y.desc).map (fun d => d.parameters.length) = some n) (hRm : fr + 1 ≤ R.frames ∧ 8 + (maxL + 11) + lo ≤ R.locals) (hn : As.length = n) (hw : (st.map fun v => v.category).sum ≤ 8) (hf : cells + 0 ≤ R.cells ∧ slots + 0 ≤ R.slots) (hlink : Cond.methodLink own index y ∈ zzW) (hinst : Cond.instanceMethod y ∈ zzW) (hnm : y.name = "<init>") (hstk : stk = As.reverse ++ .ref (bs + b) :: st) (d : decode cc pc = .ok (.invokespecial index, 3)) (kk : zzB p l e R s m args below meth c nL D bs A Q cells slots S M2 hz (pc + 3) lv st) : zzB p l e R s m args below meth c nL D bs A Q cells slots S M hz pc lv stk := by
  subst hstk
  exact zi_callI C hM hcode hini hd hRm hn hw hf hlink hinst hnm d kk
theorem zi_callIN0 (C : zzC p s m args c cc own nL D) (E : zzE s R bs A X S0 out.2.1) (hm : zzle S0 S) {y : MethodName} {bytes : ByteArray} {maxL index n fr lo b : Nat} {host : String} {M2 : zzM} {As stk : List Value} (hM : Met l y (Cond.code y bytes maxL none :: zzW) { frames := fr, cells := 0, slots := 0, locals := lo } (zzPc D bs A S M (bs + S.2.1) (Value.ref (bs + b) :: As)) (zzQc D bs A S M2 (bs + S.2.1) none) 0 0 A) (hcode : Cond.code y bytes maxL none ∈ zzW) (hini : Cond.initialized y.cls ∈ zzW) (hd : y.cls ≠ "java/lang/invoke/MethodHandle" ∧ y.cls ≠ "java/lang/invoke/VarHandle" ∧ (parseMethodDescriptor y.desc).map (fun d => d.parameters.length) = some n) (hRm : fr + 1 ≤ R.frames ∧ 8 + (maxL + 11) + lo ≤ R.locals) (hn : As.length = n) (hw : (st.map fun v => v.category).sum ≤ 8) (hf : S.2.1 - S0.2.1 + 0 ≤ R.cells ∧ S.2.2 - S0.2.2 + 0 ≤ R.slots) (hlink : X s → va_Nw (.methodLinkNest own index y host) s) (hinst : Cond.instanceMethod y ∈ zzW) (hnm : y.name = "<init>") (hstk : stk = As.reverse ++ .ref (bs + b) :: st) (d : decode cc pc = .ok (.invokespecial index, 3)) (kk : zzB p l e R s m args below meth c nL D bs A Q (S.2.1 - S0.2.1) (S.2.2 - S0.2.2) S M2 (bs + S.2.1) (pc + 3) lv st) : zzB p l e R s m args below meth c nL D bs A Q (S.2.1 - S0.2.1) (S.2.2 - S0.2.2) S M (bs + S.2.1) pc lv stk := by
  subst hstk
  intro H locs ls hR hS hl
  obtain ⟨hA, hs, hRc, hRs, hX, hXs, hAb⟩ := E
  refine zz_after (res := none) (va_runIN (n := n) (bytes := bytes) (maxL := maxL) (As := As) (rest := st) (nL := nL) (Ts := zzW) ⟨C.1, C.2.1, C.2.2.1, C.2.2.2.1, C.2.2.2.2.1⟩ hM ⟨va_cnB (ws' := zzW) n C.2.2.2.2.1 (zz_good hcode) rfl rfl rfl (hlink hX) (C.2.2.2.2.1 _ hini) hd hRm, hnm, C.2.2.2.2.1 _ hinst⟩ ⟨zzPc.blind, fun U hU hW => ⟨rfl, by rw [hU]; exact hR, C.2.2.2.2.2.moved hW.alike⟩⟩ rfl hn hl.1 rfl (lv_room hw) d hf) hS hl kk
theorem zi_mmin (C : zzC p s m args c cc own nL D) {cells slots hz : Nat} {β : Type} {o : β} {index : Nat} {x y : Int32} (hlink : Cond.methodLink own index Lib.Math.min.name ∈ zzW) (hstat : Cond.static Lib.Math.min.name ∈ zzW) (hini : Cond.initialized "java/lang/Math" ∈ zzW) (hcode : Cond.code Lib.Math.min.name Lib.Math.min.code 2 (some .int) ∈ zzW) (hfr : 1 ≤ R.frames) (hlo : (st.map fun v => v.category).sum + 13 ≤ R.locals) (hf : cells + 0 ≤ R.cells ∧ slots + 0 ≤ R.slots) (d : decode cc pc = .ok (.invokestatic index, 3)) {K : Int32 → Option β} (hF : zzlet (if y < x then y else x) K = some o) (kk : ∀ z, K z = some o → zzB p l e R s m args below meth c nL D bs A Q cells slots S M hz (pc + 3) lv (.int z :: st)) : zzB p l e R s m args below meth c nL D bs A Q cells slots S M hz pc lv (.int y :: .int x :: st) := fun H locs ls hR hS hl => va_mmin C.1 C.2.1 (by rw [C.2.2.1]; exact hl.1.symm) C.2.2.2.1 (C.2.2.2.2.1 _ hlink) (C.2.2.2.2.1 _ hstat) (C.2.2.2.2.1 _ hini) (C.2.2.2.2.1 _ hcode) hfr hlo hf.1 hf.2 d (kk _ hF H locs ls hR hS hl)
def zzmul (S : zzS) : zzS := (fun a => if a = S.2.1 then (5, 6) else if S.2.1 < a ∧ a < S.2.1 + 7 then (2, 72) else S.1 a, S.2.1 + 7, S.2.2 + 438)
def zzmulM (M : zzM) (n : Nat) : zzM := (M.1, (fun b => if n < b ∧ b < n + 7 then (fun _ => 0) else M.2.1 b), (fun b => if b = n then (fun j => if j < 6 then some (n + 1 + j) else none) else M.2.2 b))
def zzmkm {ρ : Type} (S : zzS) (M : zzM) (K : Nat → zzS → zzM → Option (ρ × zzS × zzM)) : Option (ρ × zzS × zzM) := zzfin (zzmul S) (K S.2.1 (zzmul S) (zzmulM M S.2.1))
theorem zz_outer (c : ClassId) (N h0 : Nat) : ∀ i : Nat, Jvm.Free.Multi.outerC c N h0 i = arrV c N (fun j => va_rf (if j < i then some (h0 + 1 + j) else none))
  | 0 => by
    show ({ cls := c, slots := Array.replicate N .null, vm := .none } : Cell) = _
    rw [arrV_new]
    refine congrArg (arrV c N) (funext fun j => ?_)
    simp [va_rf]
  | i + 1 => by
    show (Jvm.Free.Multi.outerC c N h0 i).setSlot i (.ref (h0 + 1 + i)) = _
    rw [zz_outer c N h0 i, arrV_store]
    refine congrArg (arrV c N) (funext fun j => ?_)
    by_cases e : j = i
    · subst e
      simp [updV, va_rf]
    · by_cases h : j < i
      · simp [updV, e, h, Nat.lt_succ_of_lt h]
      · simp [updV, e, h, show ¬ j < i + 1 by omega]
theorem zi_multi (C : zzC p s m args c cc own nL D) (E : zzE s R bs A X S0 out.2.1) (hm : zzle S0 S) {index : Nat} (hcl : Cond.classLink own index "[[J" ∈ zzW) (hov : X s → zzAOJ s) (hac : Cond.arrayClass .long ∈ zzW) (d : decode cc pc = .ok (.multianewarray index 2, 4)) {K : Nat → zzS → zzM → Option (ρ × zzS × zzM)} (hF : zzmkm S M K = some out) (kk : ∀ b S1 M1, b < S1.2.1 → zzk S1 b = 5 → zzle S0 S1 → zzle S1 out.2.1 → K b S1 M1 = some out → zzB p l e R s m args below meth c nL D bs A Q (S1.2.1 - S0.2.1) (S1.2.2 - S0.2.2) S1 M1 (bs + S1.2.1) (pc + 4) lv (.ref (bs + b) :: st)) : zzB p l e R s m args below meth c nL D bs A Q (S.2.1 - S0.2.1) (S.2.2 - S0.2.2) S M (bs + S.2.1) pc lv (.int 72 :: .int 6 :: st) := by
  intro H locs ls hR hS hl
  obtain ⟨hA, hs, hRc, hRs, hX, hXs, hAb⟩ := E
  obtain ⟨hF, g1, g2⟩ := zzfin_e hF
  have g1' : S.2.1 + 7 ≤ out.2.1.2.1 := g1
  have g2' : S.2.2 + 438 ≤ out.2.1.2.2 := g2
  have hm1 := hm.1
  have hm2 := hm.2
  have hc6 : (6 : Int32).toNatClampNeg = 6 := by decide
  have hc72 : (72 : Int32).toNatClampNeg = 72 := by decide
  intro T hT Xs
  obtain ⟨vm₁, cA, comp, -, fA, fC, hO, -, X', step⟩ := Xs.multianewarray2F C.1 C.2.2.2.1 (ty := .long) (C.2.2.2.2.1 _ hcl) (hov hX) (C.2.2.2.2.1 _ hac) (g := F0 m pc ls (.int 72 :: .int 6 :: st)) rfl (by rw [C.2.1]; exact d) rfl (by decide) (by decide) (by decide) (by decide) (by decide) (by decide) (by decide) (by rw [hRc, hc6]; omega) (by rw [hRs, hc6, hc72]; omega)
  rw [hc6, hc72] at X' step
  obtain ⟨f1, f2, -, -⟩ := Jvm.Free.Multi.fill_facts (T.setVm vm₁) cA comp 6 72 (defaultValue .long) 6
  have hold : ∀ x : Nat, x < (T.setVm vm₁).heap.size → (Jvm.Free.Multi.fill (T.setVm vm₁) cA comp 6 72 (defaultValue .long) 6).heap[x]? = (T.setVm vm₁).heap[x]? := fun x hx => Jvm.Free.Multi.fill_old (T.setVm vm₁) cA comp 6 72 (defaultValue .long) hx 6
  have hrow := fun j hj => Jvm.Free.Multi.fill_inner (T.setVm vm₁) cA comp 6 72 (defaultValue .long) 6 j hj
  generalize Jvm.Free.Multi.fill (T.setVm vm₁) cA comp 6 72 (defaultValue .long) 6 = Fl at X' step f1 f2 hold hrow
  have hTh : (T.setVm vm₁).heap = H := hT
  rw [hTh, hR.1] at f1 f2
  simp only [hTh, hR.1] at hold hrow
  obtain ⟨kA', comp', a1, a2, a3⟩ : ∃ x y : Nat, s.vm.findClass "[[J" = some (D.2.2 5) ∧ s.vm.findClass "[J" = some (D.2.2 2) ∧ True := ⟨0, 0, (C.2.2.2.2.2.2 5 (by decide) (by decide)).2, (C.2.2.2.2.2.2 2 (by decide) (by decide)).2, trivial⟩
  have e5 : cA = D.2.2 5 := Option.some.inj (fA.symm.trans a1)
  have e2 : comp = D.2.2 2 := Option.some.inj (fC.symm.trans a2)
  subst e5; subst e2
  rw [zz_outer] at f2
  have hcs : S.2.1 - S0.2.1 + 1 + 6 = (zzmul S).2.1 - S0.2.1 := by show _ = S.2.1 + 7 - S0.2.1; omega
  have hss : S.2.2 - S0.2.2 + 6 + 6 * 72 = (zzmul S).2.2 - S0.2.2 := by show _ = S.2.2 + 438 - S0.2.2; omega
  rw [hcs, hss] at X'
  have hk5 : zzk (zzmul S) S.2.1 = 5 := by simp [zzk, zzmul]
  have hrep : zzRep D bs A (zzmul S) (zzmulM M S.2.1) (bs + (zzmul S).2.1) Fl.heap := by
    refine ⟨by rw [f1]; show _ = bs + (S.2.1 + 7); omega, fun b hb hk => ?_⟩
    have hb' : b < S.2.1 + 7 := hb
    by_cases h1 : b = S.2.1
    · subst h1
      refine ⟨hA _ (by omega), zzRep.toArr hk5 (by decide) ?_⟩
      rw [f2, zzel_5]
      have hn5 : zzn (zzmul S) S.2.1 = 6 := by simp [zzn, zzmul]
      rw [hn5]
      congr 2
      funext j
      by_cases hj : j < 6
      · have e6 : bs + S.2.1 + 1 + j = bs + (S.2.1 + 1 + j) := by omega
        simp [zzmulM, zzR, zzrf, hj, e6]
      · simp [zzmulM, zzR, zzrf, hj]
    · by_cases h2 : S.2.1 < b
      · have hk2 : zzk (zzmul S) b = 2 := by simp [zzk, zzmul, h1, h2, hb']
        refine ⟨hA _ (by omega), zzRep.toArr hk2 (by decide) ?_⟩
        have hn2 : zzn (zzmul S) b = 72 := by simp [zzn, zzmul, h1, h2, hb']
        have := hrow (b - (S.2.1 + 1)) (by omega)
        rw [show bs + S.2.1 + 1 + (b - (S.2.1 + 1)) = bs + b by omega] at this
        rw [this, hn2, zzel_2]
        show some ({ cls := D.2.2 2, slots := Array.replicate 72 (defaultValue .long), vm := .none } : Cell) = _
        rw [arrV_new]
        congr 2
        funext j
        simp [zzmulM, zzL, h2, hb', defaultValue]
      · have hS1 : (zzmul S).1 b = S.1 b := by simp [zzmul, h1, h2]
        have hkk : zzk S b ≠ 0 := by
          unfold zzk at hk ⊢
          rw [hS1] at hk; exact hk
        obtain ⟨q1, q2⟩ := hR.2 b (by omega) hkk
        exact ⟨q1, q2.kept2 hS1 (hold _ (by omega)) (by simp [zzsame, zzmulM, h1, h2])⟩
  obtain ⟨t, b1, b2⟩ := kk S.2.1 (zzmul S) (zzmulM M S.2.1) (by show _ < S.2.1 + 7; omega) hk5 ⟨by show _ ≤ S.2.1 + 7; omega, by show _ ≤ S.2.2 + 438; omega⟩ ⟨g1, g2⟩ hF Fl.heap locs ls hrep ⟨by have := hS.1; have := hR.1; omega, fun q w1 w2 => by
      rw [hold q (by omega)]; exact hS.2.1 q w1 w2, hS.2.2⟩ hl Fl rfl X'
  refine ⟨t, step t ?_, b2⟩
  rw [hT, hR.1]
  exact b1
end ZA
theorem zz_metA {l : Launch} {y : MethodName} {bytes : ByteArray} {maxL fr lo : Nat} {ret : Option FieldType} {D : zzD} {bs : Nat} {A : Nat → Prop} {X : State → Prop} {S So : zzS} {M Mo : zzM} {res : Option Value} (av : List Value) (hy : plainName y.cls = true) (hav : (lg_sl av).length ≤ maxL) (hA : ∀ q : Nat, bs + S.2.1 ≤ q → A q) (hAb : ∀ q : Nat, A q → bs ≤ q) (hXs : zzStab bs X)
    (body : ∀ (p : Program) (e : Env) (s : State) (m : MethodId) (args : Array Value) (below : List Frame) (meth : Method) (c : Code), zzC p s m args c bytes y.cls maxL D → meth.sig.returnType = ret → meth.locks = false → meth.name = y.name → zzE s { frames := fr, cells := So.2.1 - S.2.1, slots := So.2.2 - S.2.2, locals := lo } bs A X S So → zzB p l e { frames := fr, cells := So.2.1 - S.2.1, slots := So.2.2 - S.2.2, locals := lo } s m args below meth c maxL D bs A (MQ below (zzQc D bs A So Mo (bs + So.2.1) res) args s (So.2.1 - S.2.1) (So.2.2 - S.2.2) A) (S.2.1 - S.2.1) (S.2.2 - S.2.2) S M (bs + S.2.1) 0 (lv_args 0 av) []) :
    Met l y (Cond.code y bytes maxL ret :: zzW) { frames := fr, cells := So.2.1 - S.2.1, slots := So.2.2 - S.2.2, locals := lo } (zzPcX D bs A X S M av) (zzQc D bs A So Mo (bs + So.2.1) res) (So.2.1 - S.2.1) (So.2.2 - S.2.2) A := by
  refine Met.ofW (cc := bytes) (maxL := maxL) (ret := ret) hy rfl ?_
  intro p e s m args below meth c s₁ B hml hv
  obtain ⟨rfl, hR, hK, hX⟩ := hv
  have hts := atoms_spec (ws := Cond.code y bytes maxL ret :: zzW) B.pre
  have hl := lv_entry av (n := maxL) hav
  rw [lg_entry_eq]
  have b := body p e s m _ below meth c ⟨B.exec, B.bytes, hml, findClass_of_methodNamed B.named, fun w hw => hts w (List.mem_cons_of_mem _ hw), hK⟩ B.returns B.notSynchronized (name_of_methodNamed B.named B.method).1 ⟨fun q hq => hA q (by have := hR.1; omega), hR.1, rfl, rfl, hX, hXs, hAb⟩ s.heap [] _ hR va_S.rf hl
  rw [Nat.sub_self, Nat.sub_self] at b
  exact b
def zzNest (U : State) : Prop := va_Nw (.methodLinkNest "BoardScript" 21 y_Bl_init "BoardScript") U ∧ va_Nw (.methodLinkNest "BoardScript" 36 y_Bd_init "BoardScript") U ∧ va_Nw (.methodLinkNest "BoardScript" 52 y_Rp_init "BoardScript") U ∧ va_Nw (.methodLinkNest "BoardScript" 59 y_Rd_init "BoardScript") U ∧ va_Nw (.methodLinkNest "BoardScript$Reader" 55 y_Bl_init "BoardScript") U ∧ va_AO "BoardScript$Statement" U ∧ zzAOJ U
theorem zzE.hA {s : State} {R : Room} {bs : Nat} {A : Nat → Prop} {X : State → Prop} {S0 So S : zzS} (E : zzE s R bs A X S0 So) (hm : zzle S0 S) : ∀ q : Nat, bs + S.2.1 ≤ q → A q := fun q hq => E.1 q (by have h1 := E.2.1; have h2 := hm.1; omega)
def y_Ar_copyOf : MethodName := ⟨"java/util/Arrays", "copyOf", "([II)[I"⟩
