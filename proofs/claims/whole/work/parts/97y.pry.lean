/-! the beginning -/
def z00 (M : zzM) : Prop := ∀ j, zzL M 47 j = 0
def zP {α : Type} (o : Option (α × zzS × zzM)) : Prop := ∀ r S M, o = some (r, S, M) → z00 M
def zQ {α : Type} (o : Option (α × zzM)) : Prop := ∀ r M, o = some (r, M) → z00 M
theorem zP_ck {α : Type} {b : Bool} {x : Option (α × zzS × zzM)} (h : zP x) : zP (zzck b x) := fun r S M e => by
  cases b with
  | true => exact h r S M e
  | false => cases e
theorem z00_c {M : zzM} {b : Nat} (h : z00 M) : z00 (zzclr M b) := fun j => by
  show (if 47 = b then (fun _ => 0) else M.2.1 47) j = 0
  split
  · rfl
  · exact h j
theorem zP_mk {α : Type} {S : zzS} {M : zzM} {k l s : Nat} {K : Nat → zzS → zzM → Option (α × zzS × zzM)} (h : z00 M) (hK : ∀ b S M, z00 M → zP (K b S M)) : zP (zzmk S M k l s K) := fun r S2 M2 e => by
  have hc : z00 (zzclr M S.2.1) := z00_c h
  have hk := hK S.2.1 (zznew S k l s) (zzclr M S.2.1) hc
  unfold zzmk at e
  cases hx : K S.2.1 (zznew S k l s) (zzclr M S.2.1) with
  | none => rw [hx] at e; simp [zzfin] at e
  | some o =>
    obtain ⟨r1, S1, M1⟩ := o
    rw [hx] at e
    simp only [zzfin] at e
    split at e
    · cases e
      exact hk _ _ _ hx
    · cases e
theorem zP_letR {α : Type} {M : zzM} {a k : Nat} {v : Option Nat} {K : zzM → Option (α × zzS × zzM)} (h : z00 M) (hK : ∀ M, z00 M → zP (K M)) : zP (zzlet (zzsR M a k v) K) := hK _ h
theorem zP_letI {α : Type} {M : zzM} {a k : Nat} {v : Int32} {K : zzM → Option (α × zzS × zzM)} (h : z00 M) (hK : ∀ M, z00 M → zP (K M)) : zP (zzlet (zzsI M a k v) K) := hK _ h
theorem zP_call {α β : Type} {o : Option (α × zzM)} {K : α → zzM → Option (β × zzS × zzM)} (h : zQ o) (hK : ∀ r M, z00 M → zP (K r M)) : zP (zzcall o K) := fun r S M e => by
  cases o with
  | none => cases e
  | some q =>
    obtain ⟨r1, M1⟩ := q
    exact hK r1 M1 (h _ _ rfl) r S M e
theorem zP_some {α : Type} {r : α} {S : zzS} {M : zzM} (h : z00 M) : zP (some (r, S, M)) := fun r S M e => by
  cases e; exact h
theorem zQ_ck {α : Type} {b : Bool} {x : Option (α × zzM)} (h : zQ x) : zQ (zzck b x) := fun r M e => by
  cases b with
  | true => exact h r M e
  | false => cases e
theorem zQ_ref {α : Type} {S : zzS} {t : Nat} {q : Option Nat} {K : Nat → Option (α × zzM)} (h : ∀ b, zQ (K b)) : zQ (zzref S t q K) := fun r M e => by
  unfold zzref at e
  cases q with
  | none => cases e
  | some b =>
    simp only at e
    split at e
    · exact h b r M e
    · cases e
theorem zQ_ix {α : Type} {S : zzS} {b : Nat} {k : Int32} {x : Option (α × zzM)} (h : zQ x) : zQ (zzix S b k x) := fun r M e => by
  unfold zzix at e
  split at e
  · cases e
  · exact h r M e
theorem zQ_letI {α : Type} {M : zzM} {a k : Nat} {v : Int32} {K : zzM → Option (α × zzM)} (h : z00 M) (hK : ∀ M, z00 M → zQ (K M)) : zQ (zzlet (zzsI M a k v) K) := hK _ h
theorem z00_L {M : zzM} {a k : Nat} (h : z00 M) : z00 (zzsL M a k 0) := fun j => by
  rw [pL_L]
  split
  · split
    · rfl
    · exact h j
  · exact h j
theorem zQ_letL {α : Type} {M : zzM} {a k : Nat} {K : zzM → Option (α × zzM)} (h : z00 M) (hK : ∀ M, z00 M → zQ (K M)) : zQ (zzlet (zzsL M a k 0) K) := hK _ (z00_L h)
theorem zQ_let {α β : Type} {x : β} {K : β → Option (α × zzM)} (hK : ∀ x, zQ (K x)) : zQ (zzlet x K) := hK _
theorem zQ_call {α β : Type} {o : Option (α × zzM)} {K : α → zzM → Option (β × zzM)} (h : zQ o) (hK : ∀ r M, z00 M → zQ (K r M)) : zQ (zzcall o K) := fun r M e => by
  cases o with
  | none => cases e
  | some q =>
    obtain ⟨r1, M1⟩ := q
    exact hK r1 M1 (h _ _ rfl) r M e
theorem zQ_some {α : Type} {r : α} {M : zzM} (h : z00 M) : zQ (some (r, M)) := fun r M e => by
  cases e; exact h
theorem z_fgt2 {S : zzS} : ∀ (n : Nat) (M : zzM) (v0 : Nat) (v1 : Int32), z00 M → zQ (F_Md_forget_2 S n M v0 v1)
  | 0, _, _, _, _ => fun r M e => by cases e
  | n + 1, M, v0, v1, h => by
    show zQ (F_Md_forget_2_b S (F_Md_forget_2 S n) M v0 v1)
    unfold F_Md_forget_2_b
    split
    · refine zQ_letL h (fun M h => ?_)
      refine zQ_letI h (fun M h => ?_)
      refine zQ_letI h (fun M h => ?_)
      refine zQ_letI h (fun M h => ?_)
      refine zQ_letI h (fun M h => zQ_ck ?_)
      refine zQ_letI h (fun M h => ?_)
      refine zQ_letI h (fun M h => ?_)
      refine zQ_letI h (fun M h => ?_)
      refine zQ_letI h (fun M h => ?_)
      refine zQ_letI h (fun M h => ?_)
      exact zQ_some h
    · refine zQ_ref (fun b => zQ_ix (zQ_letL h (fun M h => zQ_let (fun x => ?_))))
      exact z_fgt2 n M v0 x h
theorem z_emp {S : zzS} : ∀ (n : Nat) (M : zzM) (v0 : Nat) (v1 : Int32), z00 M → zQ (F_Md_empty_22 S n M v0 v1)
  | 0, _, _, _, _ => fun r M e => by cases e
  | n + 1, M, v0, v1, h => by
    show zQ (F_Md_empty_22_b S (F_Md_empty_22 S n) M v0 v1)
    unfold F_Md_empty_22_b
    split
    · refine zQ_ref (fun b => zQ_let (fun x => zQ_let (fun y => zQ_ix (zQ_letI h (fun M h => zQ_call (z_fgt2 2000 M v0 0 h) (fun r M h => zQ_some h))))))
    · exact zQ_ref (fun b => zQ_ix (zQ_letI h (fun M h => zQ_let (fun x => z_emp n M v0 x h))))
theorem z_init {S : zzS} {M : zzM} {v0 : Nat} (h : z00 M) : zP (F_Md_init S M v0) := by
  unfold F_Md_init
  iterate 18
    refine zP_ck (zP_mk h (fun b S M h => zP_ck (zP_letR h (fun M h => ?_))))
  refine zP_letI h (fun M h => ?_)
  iterate 15
    refine zP_ck (zP_mk h (fun b S M h => zP_ck (zP_letR h (fun M h => ?_))))
  refine zP_call ?_ (fun r M h => zP_some h)
  unfold F_Md_empty
  refine zQ_letI h (fun M h => zQ_letI h (fun M h => zQ_letI h (fun M h => zQ_letI h (fun M h => ?_))))
  exact z_emp 2000 M v0 0 h
set_option maxRecDepth 1000000 in
set_option maxHeartbeats 4000000 in
theorem st_47a : z00 lwMb0 := fun j => rfl
set_option maxRecDepth 1000000 in
set_option maxHeartbeats 4000000 in
theorem st_17 (j : Nat) : zzL lwM3 17 j = 0 := rfl
theorem st_47 : z00 lwM3 := by
  have hb : z00 lwMb := by
    unfold lwMb
    cases h : lwob with
    | none => exact fun j => rfl
    | some q =>
      obtain ⟨r, S, M⟩ := q
      exact z_init st_47a r S M h
  exact z00_c hb
set_option maxRecDepth 1000000 in
set_option maxHeartbeats 4000000 in
theorem st_6 (j : Nat) : zzL lwM3 6 j = zzL lwM3 45 j := rfl
set_option maxRecDepth 1000000 in
set_option maxHeartbeats 4000000 in
theorem st_7 (j : Nat) : zzL lwM3 7 j = zzL lwM3 46 j := rfl
set_option maxRecDepth 1000000 in
set_option maxHeartbeats 4000000 in
theorem st_20 (j : Nat) : zzI lwM3 20 j = zzI lwM3 48 j := rfl
set_option maxRecDepth 1000000 in
set_option maxHeartbeats 4000000 in
theorem st_22 (j : Nat) : zzI lwM3 22 j = zzI lwM3 51 j := rfl
set_option maxRecDepth 1000000 in
theorem st_c : (∀ a : Nat, a < 28 → lwSc.1 a = lwkc.getD a (0, 0)) ∧ lwSc.1 62 = (2, 1) ∧ (∀ a : Nat, a < 62 → 28 ≤ a → lwSc.1 a = (0, 0)) := by decide +kernel
set_option maxRecDepth 1000000 in
theorem st_r : ∀ q ∈ lwrc, zzR lwM3 q.1 q.2.1 = q.2.2 := by decide +kernel
set_option maxRecDepth 1000000 in
theorem st_m : ∀ k : Nat, k < 67 → zzR lwM3 28 k = lwrf.getD k none := by decide +kernel
set_option maxRecDepth 1000000 in
theorem st_v : zzI lwM3 5 1 = 0 ∧ zzI lwM3 5 3 = 0 ∧ zzI lwM3 28 28 = 0 ∧ zzI lwM3 28 30 = 0 ∧ zzI lwM3 28 3 = 0 ∧ zzI lwM3 19 1 = 0 ∧ zzI lwM3 28 36 = 0 ∧ zzI lwM3 19 5 = 0 ∧ zzI lwM3 28 42 = 0 ∧ zzI lwM3 19 6 = 0 ∧ zzI lwM3 28 40 = 0 ∧ zzI lwM3 19 7 = 0 ∧ zzI lwM3 28 44 = 0 ∧ zzI lwM3 19 3 = 0 ∧ zzI lwM3 28 38 = 0 ∧ zzI lwM3 19 8 = 0 ∧ zzL lwM3 28 35 = 0 ∧ zzI lwM3 0 1 = 0 ∧ zzI lwM3 28 1 = 0 ∧ zzI lwM3 0 2 = zzI lwM3 28 32 ∧ zzR lwM3 0 4 = some 2 ∧ zzI lwM3 32 0 = 20 ∧ zzI lwM3 19 9 = zzI lwM3 28 46 ∧ zzI lwM3 19 11 = zzI lwM3 28 48 ∧ zzR lwM3 19 10 = none ∧ zzI lwM3 28 47 = -1 := by decide +kernel
theorem pu_start : puRel lwSc lwM3 lwM3 := by
  obtain ⟨a1, a2, a3, a4, a5, a6, a7, a8, a9, a10, a11, a12, a13, a14, a15, a16, a17, a18, a19, a20, a21, a22, a23, a24, a25, a26⟩ := st_v
  have hS : clS lwSc := ⟨st_c.1, st_c.2.1, fun a h1 h2 => st_c.2.2 a h2 h1, by decide⟩
  have hC : clR lwM3 := st_r
  have n0 : nI 0 = (0 : Int32) := nI_0
  refine ⟨fun _ => 0, 0, 0, 0, 0, 0, 2, ⟨⟨hS, hC, a1.trans n0.symm, by omega, a2.trans n0.symm, by omega⟩, ⟨st_m, a3.trans n0.symm, by omega, a4.trans n0.symm, by omega⟩, a5.trans n0.symm, by omega, ⟨funext st_6, funext st_7, ⟨0, by omega, a6.trans n0.symm, a7.trans n0.symm⟩, funext st_20, ⟨0, by omega, a8.trans n0.symm, a9.trans n0.symm⟩, funext st_22, ?_, a12.trans a13.symm, by rw [a12]; decide⟩, ⟨0, by omega, a14.trans n0.symm, a15.trans n0.symm, fun i hi => absurd hi (by omega)⟩, a16.trans n0.symm, a17, by omega⟩, ⟨Or.inl a14, fun j _ => (st_17 j).trans (st_47 j).symm⟩, ⟨by omega, a18.trans n0.symm, a19.trans n0.symm, fun i hi => absurd hi (by omega)⟩, a20, a21, sc_blank hS hC a22, a23, a24, Or.inl ⟨a25, a26⟩⟩
  rw [fnR_bt, a10, a11]
  have e : btL 0 12 = [] := by decide
  rw [e]
  exact ⟨n0.symm, fun i o h => by simp at h⟩
theorem pu_ok : lwOK puRel := by
  intro Sc Mc Mm H
  have hS : clS Sc := by
    obtain ⟨T, N, w, o, ll, t, sc, H⟩ := H
    exact (pu_dat H).1
  have hk := hS.2.1
  refine ⟨⟨by have := hS.2.2.2; omega, ck_0 hS, by unfold zzk; rw [hk], by unfold zzn; rw [hk]⟩, pu_unit H, pu_read H, pu_object H, pu_field H, pu_run H, pu_at H, pu_query H, pu_output H, pu_error H, pu_closed H, pu_restored H, pu_added H, pu_steps H, pu_failAt H, pu_list H, pu_line H, pu_clear H⟩
