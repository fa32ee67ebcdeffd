def lwE0 : zzS := (fun _ => (0, 0), 0, 0)
def lwd : Unit × zzS × zzM := ((), lwE0, zz0)
def lwSa0 : zzS := zznew lwE0 10 0 10
def lwMa0 : zzM := zzclr zz0 0
def lwoa : Option (Unit × zzS × zzM) := F_Bs_init lwSa0 lwMa0 0
def lwSa : zzS := (lwoa.getD lwd).2.1
def lwMa : zzM := (lwoa.getD lwd).2.2
def lwSb0 : zzS := zznew lwSa 19 0 67
def lwMb0 : zzM := zzclr lwMa lwSa.2.1
def lwob : Option (Unit × zzS × zzM) := F_Md_init lwSb0 lwMb0 lwSa.2.1
def lwSb : zzS := (lwob.getD lwd).2.1
def lwMb : zzM := (lwob.getD lwd).2.2
/-- the worlds behind the constructors -/
def lwS3 : zzS := zznew lwSb 2 (1 : Int32).toNatClampNeg (1 : Int32).toNatClampNeg
def lwM3 : zzM := zzclr lwMb lwSb.2.1
theorem lw_some {o : Option (Unit × zzS × zzM)} (h : o.isSome = true) : o = some ((), (o.getD lwd).2.1, (o.getD lwd).2.2) := by
  cases o with
  | none => cases h
  | some q => rfl
set_option maxRecDepth 1000000 in
theorem lw_oa : lwoa = some ((), lwSa, lwMa) := lw_some (by decide +kernel)
set_option maxRecDepth 1000000 in
theorem lw_ob : lwob = some ((), lwSb, lwMb) := lw_some (by decide +kernel)
set_option maxRecDepth 1000000 in
theorem lw_na : lwSa.2.1 = 28 ∧ lwSa.2.2 = 1522 := by decide +kernel
set_option maxRecDepth 1000000 in
theorem lw_nb : lwSb.2.1 = 62 ∧ lwSb.2.2 = 15647 := by decide +kernel
set_option maxRecDepth 1000000 in
theorem lw_k3 : ∀ a : Nat, a < 63 → (zzk lwSc a ≠ 0 → lwS3.1 a = lwSc.1 a) ∧ (zzk lwSm a ≠ 0 → lwS3.1 a = lwSm.1 a) := by decide +kernel
noncomputable def lwKe (b1 b2 b3 : Nat) (S : zzS) (M : zzM) : Option (Unit × zzS × zzM) := @ite _ (b1 = 0 ∧ b2 = 28 ∧ b3 = 62 ∧ S = lwS3 ∧ M = lwM3) (Classical.propDecidable _) (some ((), (lwS3.1, 601024, 7293034), lwM3)) none
theorem lwKe_e {b1 b2 b3 : Nat} {S : zzS} {M : zzM} {o : Unit × zzS × zzM} (h : lwKe b1 b2 b3 S M = some o) : b1 = 0 ∧ b2 = 28 ∧ b3 = 62 ∧ S = lwS3 ∧ M = lwM3 := by
  unfold lwKe at h
  split at h
  · assumption
  · cases h
noncomputable def lwFP : Option (Unit × zzS × zzM) := zzmk lwE0 zz0 10 0 10 fun b1 S M => zzcallA S (F_Bs_init S M b1) fun _ S M => zzmk S M 19 0 67 fun b2 S M => zzcallA S (F_Md_init S M b2) fun _ S M => zzck (zznn (1 : Int32)) (zzmk S M 2 (1 : Int32).toNatClampNeg (1 : Int32).toNatClampNeg fun b3 S M => lwKe b1 b2 b3 S M)
theorem zzfin_i {ρ : Type} {S1 : zzS} {x : Option (ρ × zzS × zzM)} {o : ρ × zzS × zzM} (h : x = some o) (h1 : S1.2.1 ≤ o.2.1.2.1) (h2 : S1.2.2 ≤ o.2.1.2.2) : zzfin S1 x = some o := by
  subst h; simp [zzfin, h1, h2]
theorem zzcallA_i {α ρ : Type} {S : zzS} {q : Option (α × zzS × zzM)} {K : α → zzS → zzM → Option (ρ × zzS × zzM)} {o : ρ × zzS × zzM} {r : α} {S1 : zzS} {M1 : zzM} (hq : q = some (r, S1, M1)) (h1 : S.2.1 ≤ S1.2.1) (h2 : S.2.2 ≤ S1.2.2) (h3 : S1.2.1 ≤ o.2.1.2.1) (h4 : S1.2.2 ≤ o.2.1.2.2) (hK : K r S1 M1 = some o) : zzcallA S q K = some o := by
  subst hq
  simp only [zzcallA]
  rw [if_pos ⟨h1, h2⟩]
  exact zzfin_i hK h3 h4
set_option maxRecDepth 100000 in
theorem lw_FP : lwFP = some ((), (lwS3.1, 601024, 7293034), lwM3) := by
  have na := lw_na
  have nb := lw_nb
  have n3 : lwS3.2.1 = 63 ∧ lwS3.2.2 = 15648 := by
    have c1 : (1 : Int32).toNatClampNeg = 1 := by decide
    constructor
    · show lwSb.2.1 + 1 = 63; omega
    · show lwSb.2.2 + (1 : Int32).toNatClampNeg = 15648; omega
  unfold lwFP
  refine zzfin_i ?_ (by show 0 + 1 ≤ 601024; omega) (by show 0 + 10 ≤ 7293034; omega)
  refine zzcallA_i (S1 := lwSa) (M1 := lwMa) (r := ()) lw_oa (by show 0 + 1 ≤ _; omega) (by show 0 + 10 ≤ _; omega) (by show _ ≤ 601024; omega) (by show _ ≤ 7293034; omega) ?_
  refine zzfin_i ?_ (by show lwSa.2.1 + 1 ≤ 601024; omega) (by show lwSa.2.2 + 67 ≤ 7293034; omega)
  refine zzcallA_i (S1 := lwSb) (M1 := lwMb) (r := ()) lw_ob (by show lwSa.2.1 + 1 ≤ _; omega) (by show lwSa.2.2 + 67 ≤ _; omega) (by show _ ≤ 601024; omega) (by show _ ≤ 7293034; omega) ?_
  show (if zznn (1 : Int32) = true then _ else none) = _
  rw [if_pos (by decide)]
  refine zzfin_i ?_ (by show lwS3.2.1 ≤ 601024; omega) (by show lwS3.2.2 ≤ 7293034; omega)
  show lwKe 0 lwSa.2.1 lwSb.2.1 lwS3 lwM3 = _
  unfold lwKe
  rw [if_pos ⟨rfl, na.1, nb.1, rfl, rfl⟩]
set_option maxHeartbeats 4000000 in
set_option maxRecDepth 100000 in
theorem lw_prefix {p : Program} {l : Launch} {e : Env} {s : State} {m : MethodId} {b : Nat} {below : List Frame} {meth : Method} {c : Code} {D : zzD} {bs : Nat} (C : lwK p s m b c D) (hbs : bs = s.heap.size) (hr : meth.sig.returnType = ret) (hlocks : meth.locks = false) (hl0 : l.stackTraces = false) {adK adV sa : Nat → Nat} (hXs : zzStab bs (lwX bs adK adV sa)) (hX : lwX bs adK adV sa s) {L : Nat} {xs : Nat → Int32} (hX0 : va_X b L xs s s.heap) (hbl : b < s.heap.size) (hL : L ≤ 2560) {Rel : zzS → zzM → zzM → Prop} (hOK : lwOK Rel) (h3 : Rel lwSc lwM3 lwM3) :
    zzB p l e room_1 s m #[Value.ref b] below meth c 8 D bs (lwA s) (lw_Z below #[Value.ref b] s) (lwE0.2.1 - lwE0.2.1) (lwE0.2.2 - lwE0.2.2) lwE0 zz0 (bs + lwE0.2.1) 0 [(0, .ref b)] [] := by
  have hF := lw_FP
  have EE : zzE s room_1 bs (lwA s) (lwX bs adK adV sa) lwE0 (((), (lwS3.1, 601024, 7293034), lwM3) : Unit × zzS × zzM).2.1 := ⟨fun q h => h, by rw [hbs]; rfl, rfl, rfl, hX, hXs, fun q h => by rw [hbs]; exact h⟩
  have hAb : ∀ q : Nat, lwA s q → bs ≤ q := fun q h => by rw [hbs]; exact h
  have hm : zzle lwE0 lwE0 := ⟨Nat.le_refl _, Nat.le_refl _⟩
  unfold lwFP at hF
  refine zi_new C EE hm zc_0 (by decide +kernel) zw_820 zw_818 zw_659 d_Lw_law_0 hF (fun b1 S M hn_b1 hk_b1 hm ho hF => ?_)
  refine zi_dup C d_Lw_law_3 rfl ?_
  obtain ⟨r4, S1, M1, hq, h1, h2, h3, h4, hF⟩ := zzcallA_e hF
  refine zi_callAI (n := 0) (S1 := S1) (M1 := M1) (As := []) (st := [.ref (bs + b1)]) C EE hm (c_Bs_init (out := (r4, S1, M1)) (zzE.hA EE hm) hAb hXs (fun U h => h.1.1) hq ⟨h1, h2⟩ hn_b1 hk_b1) h1 h2 h3 h4 zw_821 zw_659 (by decide +kernel) ⟨Nat.le_of_ble_eq_true rfl, Nat.le_of_ble_eq_true rfl⟩ rfl (Nat.le_of_ble_eq_true rfl) zw_822 zw_823 rfl rfl d_Lw_law_4 (fun hm ho => ?_)
  clear h1 h2 h3 h4
  generalize S1 = S at hF hm ho ⊢
  generalize M1 = M at hF ⊢
  refine zi_astore_n (lv' := [(1, .ref (bs + b1)), (0, .ref b)]) C d_Lw_law_7 rfl (by decide) rfl ?_
  refine zi_new C EE hm zc_9 (by decide +kernel) zw_824 zw_819 zw_18 d_Lw_law_8 hF (fun b2 S M hn_b2 hk_b2 hm ho hF => ?_)
  refine zi_dup C d_Lw_law_11 rfl ?_
  obtain ⟨r12, S1, M1, hq, h1, h2, h3, h4, hF⟩ := zzcallA_e hF
  refine zi_callAI (n := 0) (S1 := S1) (M1 := M1) (As := []) (st := [.ref (bs + b2)]) C EE hm (c_Md_init (out := (r12, S1, M1)) (zzE.hA EE hm) hAb hXs (fun U h => h.1.1) hq ⟨h1, h2⟩ hn_b2 hk_b2) h1 h2 h3 h4 zw_825 zw_18 (by decide +kernel) ⟨Nat.le_of_ble_eq_true rfl, Nat.le_of_ble_eq_true rfl⟩ rfl (Nat.le_of_ble_eq_true rfl) zw_826 zw_827 rfl rfl d_Lw_law_12 (fun hm ho => ?_)
  clear h1 h2 h3 h4
  generalize S1 = S at hF hm ho ⊢
  generalize M1 = M at hF ⊢
  refine zi_astore_n (lv' := [(2, .ref (bs + b2)), (1, .ref (bs + b1)), (0, .ref b)]) C d_Lw_law_15 rfl (by decide) rfl ?_
  refine zi_iconst (v := 1) C d_Lw_law_16 (by decide) ?_
  refine zi_newarr_long C EE hm zw_538 d_Lw_law_17 hF (fun b3 S M hn_b3 hk_b3 hm ho hF => ?_)
  refine zi_astore_n (lv' := [(3, .ref (bs + b3)), (2, .ref (bs + b2)), (1, .ref (bs + b1)), (0, .ref b)]) C d_Lw_law_19 rfl (by decide) rfl ?_
  refine zi_iconst (v := 0) C d_Lw_law_20 (by decide) ?_
  refine zi_istore (lv' := [(4, .int 0), (3, .ref (bs + b3)), (2, .ref (bs + b2)), (1, .ref (bs + b1)), (0, .ref b)]) C d_Lw_law_21 (by decide) rfl ?_
  obtain ⟨rfl, rfl, rfl, rfl, rfl⟩ := lwKe_e hF
  have n3 : lwS3.2.1 = 63 ∧ lwS3.2.2 = 15648 := by
    have nb := lw_nb
    have c1 : (1 : Int32).toNatClampNeg = 1 := by decide
    constructor
    · show lwSb.2.1 + 1 = 63; omega
    · show lwSb.2.2 + (1 : Int32).toNatClampNeg = 15648; omega
  intro H locs ls hR hS hl
  have hk := lw_k3
  have hP : lwP D bs lwSc lwM3 lwSm lwM3 H := by
    constructor
    · refine ⟨by rw [hR.1, n3.1]; rfl, fun a ha hka => ?_⟩
      have ha' : a < 63 := ha
      have he := (hk a ha').1 hka
      have hk3 : zzk lwS3 a ≠ 0 := by unfold zzk; rw [he]; exact hka
      obtain ⟨-, q2⟩ := hR.2 a (by rw [n3.1]; exact ha') hk3
      refine ⟨⟨by omega, fun h => ?_⟩, q2.kept2 he.symm rfl ⟨rfl, rfl, rfl⟩⟩
      have h0 : ∀ a : Nat, 28 ≤ a → a < 62 → zzk lwSc a = 0 := fun a h1 h2 => by
        simp only [zzk, lwSc]; rw [if_neg (by omega), if_neg (by omega)]
      exact hka (h0 a (by omega) (by omega))
    · refine ⟨by rw [hR.1, n3.1]; rfl, fun a ha hka => ?_⟩
      have ha' : a < 62 := ha
      have he := (hk a (by omega)).2 hka
      have hk3 : zzk lwS3 a ≠ 0 := by unfold zzk; rw [he]; exact hka
      obtain ⟨-, q2⟩ := hR.2 a (by rw [n3.1]; omega) hk3
      refine ⟨⟨?_, by omega⟩, q2.kept2 he.symm rfl ⟨rfl, rfl, rfl⟩⟩
      refine Nat.le_of_not_lt fun h => hka ?_
      simp only [zzk, lwSm]; rw [if_neg (by omega)]
  have hc1 : lwS3.2.1 - lwE0.2.1 = lwSc.2.1 := by rw [n3.1]; rfl
  have hc2 : lwS3.2.2 - lwE0.2.2 = lwSc.2.2 := by rw [n3.2]; rfl
  rw [hc1, hc2]
  exact lw_loop C hbs hr hlocks hl0 hXs hX hX0 hbl hL hOK 512 0 lwSc lwM3 lwM3 h3 (by omega) (by omega) (by decide) (by decide) H locs ls hP hS hl
theorem whole_start {p : Program} {e : Env} {s : State} {m : MethodId} {below : List Frame} {meth : Method} {c : Code} (l : Launch) (hl0 : l.stackTraces = false) {b L : Nat} {xs : Nat → Int32} (hL : L ≤ 2560) (C0 : lw_At p s m meth c b L xs) {Rel : zzS → zzM → zzM → Prop} (hOK : lwOK Rel) (h3 : Rel lwSc lwM3 lwM3) : W p l e room_1 s m #[Value.ref b] below meth c s.heap [] 0 0 (lw_Z below #[Value.ref b] s) (entryFrame m ([Value.ref b] : List Value).toArray 8) := by
  obtain ⟨hx, hb, hr, hml, hown, hts, hX0, hbl, hlocks, hgv⟩ := id C0
  obtain ⟨D, hK⟩ := lw_D hts
  obtain ⟨adK, adV, sa, hX⟩ := lw_Xof hts hgv
  have hl := lv_entry ([.ref b]) (n := 8) (Nat.le_of_ble_eq_true rfl)
  rw [lg_entry_eq]
  generalize (lg_sl ([.ref b]) ++ List.replicate (8 - (lg_sl ([.ref b])).length) Slot.unset).toArray = ls at hl ⊢
  have hl : lv_has ls 8 [(0, .ref b)] := hl
  have h := lw_prefix (below := below) (e := e) (l := l) ⟨hx, hb, hml, hown, lw_tz hts, hK⟩ rfl hr hlocks hl0 lw_stab hX hX0 hbl hL hOK h3
  exact h s.heap [] ls ⟨rfl, fun a ha _ => absurd ha (Nat.not_lt_zero a)⟩ va_S.rf hl
