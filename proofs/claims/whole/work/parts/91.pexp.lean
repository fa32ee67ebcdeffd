/-! expressions: one list of codes, reckoned by both -/
def stR (f : Nat → Int64) : List Int64 → Prop
  | [] => True
  | x :: r => f r.length = x ∧ stR f r
def joinE (c : Int32) (x y : Int64) : Int64 := if c = 42 then x * y else if c = 47 then x / y else if c = 37 then x - x / y * y else if c = 43 then x + y else if c = 45 then x - y else if c = 60 then (if x < y then 1 else 0) else (if x = y then 1 else 0)
/-- variables, fields, objects, list, its length -/
abbrev pxE : Type := (Nat → Int64) × (Nat → Int64) × Nat × (Nat → Int64) × Nat
def evS (E : pxE) (c v : Int32) (st : List Int64) : Int32 × List Int64 :=
  if c = 48 then (0, v.toInt64 :: st)
  else if c = 97 then (0, E.1 v.toNatClampNeg :: st)
  else if c = 35 then (0, (nI E.2.2.1).toInt64 :: st)
  else match st with
    | [] => (0, [])
    | x :: r =>
      if c = 95 then (0, (0 - x) :: r)
      else if c = 64 then (if x < 0 ∨ ¬ x < (nI E.2.2.1).toInt64 then (2, x :: r) else (0, E.2.1 (6 * x.toInt32.toNatClampNeg + v.toNatClampNeg) :: r))
      else if c = 39 then (if x < 0 ∨ ¬ x < (nI E.2.2.2.2).toInt64 then (2, x :: r) else (0, E.2.2.2.1 x.toInt32.toNatClampNeg :: r))
      else match r with
        | [] => (0, [])
        | w :: r => if x = 0 ∧ (c = 47 ∨ c = 37) then (1, w :: r) else (0, joinE c w x :: r)
def evL (E : pxE) : List (Int32 × Int32) → List Int64 → Int32 × List Int64
  | [], st => (0, st)
  | q :: cs, st => if (evS E q.1 q.2 st).1 = 0 then evL E cs (evS E q.1 q.2 st).2 else evS E q.1 q.2 st
def pjt (c : Int32) : Prop := c = 42 ∨ c = 47 ∨ c = 37 ∨ c = 43 ∨ c = 45 ∨ c = 60 ∨ c = 61
/-- the codes can be reckoned from height h to height 1, never above 13 -/
def wfC : List (Int32 × Int32) → Nat → Prop
  | [], h => h = 1
  | q :: cs, h => (q.1 = 48 ∧ h < 13 ∧ wfC cs (h + 1)) ∨ (q.1 = 97 ∧ (∃ k, k < 26 ∧ q.2 = nI k) ∧ h < 13 ∧ wfC cs (h + 1)) ∨ (q.1 = 35 ∧ h < 13 ∧ wfC cs (h + 1)) ∨ (q.1 = 95 ∧ 1 ≤ h ∧ wfC cs h) ∨ (q.1 = 64 ∧ (∃ k, k < 6 ∧ q.2 = nI k) ∧ 1 ≤ h ∧ wfC cs h) ∨ (q.1 = 39 ∧ 1 ≤ h ∧ wfC cs h) ∨ (pjt q.1 ∧ 2 ≤ h ∧ wfC cs (h - 1))
/-- the class's letter for a code -/
def opc (c : Int32) : Int32 := if c = 48 then 110 else if c = 97 then 118 else if c = 95 then 126 else c
theorem stR_far {f g : Nat → Int64} : ∀ {st : List Int64}, stR f st → (∀ i, i < st.length → g i = f i) → stR g st
  | [], _, _ => trivial
  | x :: r, h, hg => ⟨(hg r.length (by simp)).trans h.1, stR_far h.2 (fun i hi => hg i (by simp only [List.length_cons]; omega))⟩
/-- what reckoning leaves alone in the class's memory -/
def frK (M M1 : zzM) : Prop := (∀ b j, ¬ (b = 16 ∧ (j = 3 ∨ j = 4)) → zzI M1 b j = zzI M b j) ∧ (∀ b j, b ≠ 18 → zzL M1 b j = zzL M b j) ∧ M1.2.2 = M.2.2
theorem frK.rf (M : zzM) : frK M M := ⟨fun _ _ _ => rfl, fun _ _ _ => rfl, rfl⟩
theorem frK.tr {M M1 M2 : zzM} (h : frK M M1) (h2 : frK M1 M2) : frK M M2 := ⟨fun b j hb => (h2.1 b j hb).trans (h.1 b j hb), fun b j hb => (h2.2.1 b j hb).trans (h.2.1 b j hb), h2.2.2.trans h.2.2⟩
theorem frK.cR {M M1 : zzM} (h : frK M M1) (hC : clR M) : clR M1 := fun q hq => by
  have := hC q hq
  unfold zzR at this ⊢
  rw [h.2.2]; exact this
theorem c_push {S : zzS} {M : zzM} (hS : clS S) (hC : clR M) {h : Nat} (ht : zzI M 16 3 = nI h) (hh : h < 13) (v : Int64) : F_Rk_push S M 16 v = some ((), zzsI (zzsL M 18 h v) 16 3 (nI (h + 1))) := by
  have h1 : ¬ nI h < 0 := nI_pos (by omega)
  have h2 : ¬ (13 : Int32) ≤ nI h := nI_ge (b := 13) (a := h) hh (by omega)
  simp only [F_Rk_push, plet, pcall, pck, pI_I, pI_L, pI_R, pL_I, pL_L, pL_R, pR_I, pR_L, pR_R, ht, if_neg h1, if_neg h2, cR_16_2 hC, cr_18 hS, pix (cn_18 hS) hh (by omega), pnI (show h < 100000 by omega), nI_succ]
theorem c_pop {S : zzS} {M : zzM} (hS : clS S) (hC : clR M) {h : Nat} (ht : zzI M 16 3 = nI (h + 1)) (hh : h < 13) : F_Rk_pop S M 16 = some (zzL M 18 h, zzsI M 16 3 (nI h)) := by
  have h1 : ¬ nI (h + 1) ≤ 0 := nI_nle (by omega) (by omega)
  have h2 : nI (h + 1) ≤ (13 : Int32) := nI_le (b := 13) (a := h + 1) (by omega) (by omega)
  simp only [F_Rk_pop, plet, pcall, pck, pI_I, pI_L, pI_R, pL_I, pL_L, pL_R, pR_I, pR_L, pR_R, ht, if_neg h1, if_pos h2, nI_pred, if_true, cR_16_2 hC, cr_18 hS, pix (cn_18 hS) hh (by omega), pnI (show h < 100000 by omega)]
theorem pl_small {x : Int64} {o : Nat} (ho : o ≤ 100) (h1 : ¬ x < 0) (h2 : x < (nI o).toInt64) : ∃ k, k < o ∧ x.toInt32 = nI k ∧ x = lN k := by
  have e1 := @Int64.lt_iff_toInt_lt x 0
  have e2 := @Int64.lt_iff_toInt_lt x (nI o).toInt64
  have e3 : ((nI o).toInt64).toInt = (o : Int) := by rw [Int32.toInt_toInt64, nI_toInt (by omega)]
  have e0 : (0 : Int64).toInt = 0 := by decide
  rw [e0] at e1
  rw [e3] at e2
  have g1 : ¬ x.toInt < 0 := fun h => h1 (e1.mpr h)
  have g2 := e2.mp h2
  have hx : x = lN x.toInt.toNat := by
    apply Int64.toInt_inj.mp
    rw [lN_toInt (by omega)]
    omega
  refine ⟨x.toInt.toNat, by omega, ?_, hx⟩
  rw [hx, lN_i]
  rw [lN_toInt (by omega)]
  rfl
theorem nI_mul (a b : Nat) : nI a * nI b = nI (a * b) := (Int32.ofNat_mul a b).symm
theorem c_slotOf {S : zzS} {M : zzM} {o d : Nat} (ho : zzI M 5 1 = nI o) (ho2 : o ≤ 12) (hd : d < 6) (x : Int64) : F_Bd_slotOf S M 5 x (nI d) = some (if x < 0 ∨ ¬ x < (nI o).toInt64 then -1 else nI (6 * x.toInt32.toNatClampNeg + d), M) := by
  have h1 : ¬ nI d < 0 := nI_pos (by omega)
  have h2 : nI d < (6 : Int32) := nI_lt (b := 6) hd (by omega)
  simp only [F_Bd_slotOf, plet, pcall, pck, pI_I, pI_L, pI_R, pL_I, pL_L, pL_R, pR_I, pR_L, pR_R, ho, pcmp_lt, pcmp_ge, if_neg h1, if_pos h2]
  by_cases a1 : x < 0
  · simp only [a1, true_or, if_true]
  · by_cases a2 : x < (nI o).toInt64
    · obtain ⟨k, hk, e1, e2⟩ := pl_small (by omega) a1 a2
      simp only [a1, a2, not_true, or_self, if_false, e1, pnI (show k < 100000 by omega)]
      congr 2
      show nI k * nI 6 + nI d = _
      rw [nI_mul, nI_add, Nat.mul_comm]
    · simp only [a1, a2, not_false_iff, or_true, if_true, if_false]
theorem c_placeOf {S : zzS} {M : zzM} {o : Nat} (ho : zzI M 5 3 = nI o) (x : Int64) : F_Bd_placeOf S M 5 x = some (if x < 0 ∨ ¬ x < (nI o).toInt64 then -1 else x.toInt32, M) := by
  simp only [F_Bd_placeOf, plet, pcall, pck, pI_I, pI_L, pI_R, pL_I, pL_L, pL_R, pR_I, pR_L, pR_R, ho, pcmp_lt]
  by_cases a1 : x < 0
  · simp only [a1, true_or, if_true]
  · by_cases a2 : x < (nI o).toInt64
    · simp only [a1, a2, not_true, or_self, if_false, if_true]
    · simp only [a1, a2, not_false_iff, or_true, if_true, if_false]
theorem c_cellN {S : zzS} {M : zzM} (r : Option Nat) : F_Rk_cell S M 16 r (-1) = some (0, zzsI M 16 4 2) := by
  simp only [F_Rk_cell, plet, pcall, pck, pI_I, pI_L, pI_R, pL_I, pL_L, pL_R, pR_I, pR_L, pR_R]
  rw [if_pos (by decide)]
theorem c_cell6 {S : zzS} {M : zzM} (hS : clS S) {j : Nat} (hj : j < 72) : F_Rk_cell S M 16 (some 6) (nI j) = some (zzL M 6 j, M) := by
  have h1 : ¬ nI j < 0 := nI_pos (by omega)
  have h2 : nI j < Int32.ofNat 72 := nI_lt hj (by omega)
  simp only [F_Rk_cell, plet, pcall, pck, pI_I, pI_L, pI_R, pL_I, pL_L, pL_R, pR_I, pR_L, pR_R, if_neg h1, cO_6 hS, cn_6 hS, if_pos h2, pix (cn_6 hS) hj (by omega), pnI (show j < 100000 by omega)]
theorem c_cell7 {S : zzS} {M : zzM} (hS : clS S) {j : Nat} (hj : j < 20) : F_Rk_cell S M 16 (some 7) (nI j) = some (zzL M 7 j, M) := by
  have h1 : ¬ nI j < 0 := nI_pos (by omega)
  have h2 : nI j < Int32.ofNat 20 := nI_lt hj (by omega)
  simp only [F_Rk_cell, plet, pcall, pck, pI_I, pI_L, pI_R, pL_I, pL_L, pL_R, pR_I, pR_L, pR_R, if_neg h1, cO_7 hS, cn_7 hS, if_pos h2, pix (cn_7 hS) hj (by omega), pnI (show j < 100000 by omega)]
theorem p_bne {y : Int64} (h : ¬ y = 0) : (!(y == 0)) = true := by simp [h]
theorem p_lt60 {α : Type} (x y : Int64) (a b : α) : (if y ≤ x then a else b) = (if x < y then b else a) := by
  by_cases h : x < y
  · rw [if_pos h, if_neg (Int64.not_le.mpr h)]
  · rw [if_neg h, if_pos (Int64.not_lt.mp h)]
theorem p_some {α β : Type} (p : Prop) (d : Decidable p) (a b : α) (M : β) : (@ite _ p d (some (a, M)) (some (b, M))) = some (@ite _ p d a b, M) := by
  by_cases h : p
  · rw [if_pos h, if_pos h]
  · rw [if_neg h, if_neg h]
theorem c_joined {S : zzS} {M : zzM} {c : Int32} (hc : pjt c) (x y : Int64) : F_Rk_joined S M 16 c x y = some (if y = 0 ∧ (c = 47 ∨ c = 37) then (0, zzsI M 16 4 1) else (joinE c x y, M)) := by
  by_cases hy : y = 0
  · rcases hc with rfl | rfl | rfl | rfl | rfl | rfl | rfl <;> simp [F_Rk_joined, plet, pcall, pck, pI_I, pI_L, pI_R, pL_I, pL_L, pL_R, pR_I, pR_L, pR_R, pcmp_lt, pcmp_ge, pcmp_eq, hy, joinE]
    · rw [p_lt60, p_some]
    · rw [p_some]
  · have hb := p_bne hy
    rcases hc with rfl | rfl | rfl | rfl | rfl | rfl | rfl <;> simp [F_Rk_joined, plet, pcall, pck, pI_I, pI_L, pI_R, pL_I, pL_L, pL_R, pR_I, pR_L, pR_R, pcmp_lt, pcmp_ge, pcmp_eq, hy, joinE]
    · rw [hb]; rfl
    · rw [hb]; rfl
    · rw [p_lt60, p_some]
    · rw [p_some]
theorem evS_64 (E : pxE) (v : Int32) (x : Int64) (r : List Int64) : evS E 64 v (x :: r) = if x < 0 ∨ ¬ x < (nI E.2.2.1).toInt64 then (2, x :: r) else (0, E.2.1 (6 * x.toInt32.toNatClampNeg + v.toNatClampNeg) :: r) := rfl
theorem evS_39 (E : pxE) (v : Int32) (x : Int64) (r : List Int64) : evS E 39 v (x :: r) = if x < 0 ∨ ¬ x < (nI E.2.2.2.2).toInt64 then (2, x :: r) else (0, E.2.2.2.1 x.toInt32.toNatClampNeg :: r) := rfl
theorem push_facts {M : zzM} {st : List Int64} (hst : stR (zzL M 18) st) (v : Int64) : frK M (zzsI (zzsL M 18 st.length v) 16 3 (nI (st.length + 1))) ∧ zzI (zzsI (zzsL M 18 st.length v) 16 3 (nI (st.length + 1))) 16 4 = zzI M 16 4 ∧ zzI (zzsI (zzsL M 18 st.length v) 16 3 (nI (st.length + 1))) 16 3 = nI (v :: st).length ∧ stR (zzL (zzsI (zzsL M 18 st.length v) 16 3 (nI (st.length + 1))) 18) (v :: st) := by
  refine ⟨⟨fun b j hb => ?_, fun b j hb => ?_, rfl⟩, by simp [plet, pcall, pck, pI_I, pI_L, pI_R, pL_I, pL_L, pL_R, pR_I, pR_L, pR_R], by simp [plet, pcall, pck, pI_I, pI_L, pI_R, pL_I, pL_L, pL_R, pR_I, pR_L, pR_R], by simp [plet, pcall, pck, pI_I, pI_L, pI_R, pL_I, pL_L, pL_R, pR_I, pR_L, pR_R], ?_⟩
  · simp only [plet, pcall, pck, pI_I, pI_L, pI_R, pL_I, pL_L, pL_R, pR_I, pR_L, pR_R]
    by_cases h1 : b = 16
    · by_cases h2 : j = 3
      · exact absurd ⟨h1, Or.inl h2⟩ hb
      · simp [h1, h2]
    · simp [h1]
  · simp [plet, pcall, pck, pI_I, pI_L, pI_R, pL_I, pL_L, pL_R, pR_I, pR_L, pR_R, hb]
  · refine stR_far hst (fun i hi => ?_)
    have : i ≠ st.length := by omega
    simp [plet, pcall, pck, pI_I, pI_L, pI_R, pL_I, pL_L, pL_R, pR_I, pR_L, pR_R, this]
theorem pop_facts {M : zzM} {x : Int64} {r : List Int64} (hst : stR (zzL M 18) (x :: r)) : frK M (zzsI M 16 3 (nI r.length)) ∧ zzI (zzsI M 16 3 (nI r.length)) 16 4 = zzI M 16 4 ∧ zzI (zzsI M 16 3 (nI r.length)) 16 3 = nI r.length ∧ stR (zzL (zzsI M 16 3 (nI r.length)) 18) r := by
  refine ⟨⟨fun b j hb => ?_, fun b j hb => rfl, rfl⟩, by simp [plet, pcall, pck, pI_I, pI_L, pI_R, pL_I, pL_L, pL_R, pR_I, pR_L, pR_R], by simp [plet, pcall, pck, pI_I, pI_L, pI_R, pL_I, pL_L, pL_R, pR_I, pR_L, pR_R], hst.2⟩
  simp only [plet, pcall, pck, pI_I, pI_L, pI_R, pL_I, pL_L, pL_R, pR_I, pR_L, pR_R]
  by_cases h1 : b = 16
  · by_cases h2 : j = 3
    · exact absurd ⟨h1, Or.inl h2⟩ hb
    · simp [h1, h2]
  · simp [h1]
theorem fault_facts {M : zzM} (v : Int32) : frK M (zzsI M 16 4 v) ∧ zzI (zzsI M 16 4 v) 16 4 = v ∧ zzI (zzsI M 16 4 v) 16 3 = zzI M 16 3 := by
  refine ⟨⟨fun b j hb => ?_, fun b j hb => rfl, rfl⟩, by simp [plet, pcall, pck, pI_I, pI_L, pI_R, pL_I, pL_L, pL_R, pR_I, pR_L, pR_R], by simp [plet, pcall, pck, pI_I, pI_L, pI_R, pL_I, pL_L, pL_R, pR_I, pR_L, pR_R]⟩
  simp only [plet, pcall, pck, pI_I, pI_L, pI_R, pL_I, pL_L, pL_R, pR_I, pR_L, pR_R]
  by_cases h1 : b = 16
  · by_cases h2 : j = 4
    · exact absurd ⟨h1, Or.inr h2⟩ hb
    · simp [h1, h2]
  · simp [h1]
/-- where the class reckons -/
def cK (S : zzS) (M : zzM) (o ll : Nat) : Prop := clS S ∧ clR M ∧ zzI M 5 1 = nI o ∧ o ≤ 12 ∧ zzI M 5 3 = nI ll ∧ ll ≤ 20
def cE (M : zzM) (o ll : Nat) : pxE := (zzL M 17, zzL M 6, o, zzL M 7, ll)
theorem cK.go {S : zzS} {M M1 : zzM} {o ll : Nat} (h : cK S M o ll) (hf : frK M M1) : cK S M1 o ll := ⟨h.1, hf.cR h.2.1, (hf.1 5 1 (by omega)).trans h.2.2.1, h.2.2.2.1, (hf.1 5 3 (by omega)).trans h.2.2.2.2.1, h.2.2.2.2.2⟩
theorem cE.go {M M1 : zzM} {o ll : Nat} (hf : frK M M1) : cE M1 o ll = cE M o ll := by
  have h1 : zzL M1 17 = zzL M 17 := funext fun j => hf.2.1 17 j (by omega)
  have h2 : zzL M1 6 = zzL M 6 := funext fun j => hf.2.1 6 j (by omega)
  have h3 : zzL M1 7 = zzL M 7 := funext fun j => hf.2.1 7 j (by omega)
  unfold cE
  rw [h1, h2, h3]
abbrev rkP (S : zzS) (M : zzM) (E : pxE) (q : Int32 × Int32) (cs : List (Int32 × Int32)) (st : List Int64) : Prop := ∃ M1, F_Rk_reckon S M 16 (opc q.1) q.2 = some ((), M1) ∧ frK M M1 ∧ zzI M1 16 4 = (evS E q.1 q.2 st).1 ∧ ((evS E q.1 q.2 st).1 = 0 → zzI M1 16 3 = nI (evS E q.1 q.2 st).2.length ∧ stR (zzL M1 18) (evS E q.1 q.2 st).2 ∧ wfC cs (evS E q.1 q.2 st).2.length)
theorem c_reckon {S : zzS} {M : zzM} {o ll : Nat} (hK : cK S M o ll) {st : List Int64} (ht : zzI M 16 3 = nI st.length) (hf : zzI M 16 4 = 0) (hst : stR (zzL M 18) st) {q : Int32 × Int32} {cs : List (Int32 × Int32)} (hw : wfC (q :: cs) st.length) (h13 : st.length ≤ 13) : rkP S M (cE M o ll) q cs st := by
  obtain ⟨hS, hC, ho, ho2, hl, hl2⟩ := hK
  obtain ⟨c, v⟩ := q
  rcases hw with ⟨hc, hh, hw⟩ | ⟨hc, ⟨k, hk, hv⟩, hh, hw⟩ | ⟨hc, hh, hw⟩ | ⟨hc, hh, hw⟩ | ⟨hc, ⟨k, hk, hv⟩, hh, hw⟩ | ⟨hc, hh, hw⟩ | ⟨hc, hh, hw⟩
  · dsimp only at hc; subst hc
    obtain ⟨p1, p2, p3, p4⟩ := push_facts hst v.toInt64
    refine ⟨_, ?_, p1, p2.trans hf, fun _ => ⟨p3, p4, hw⟩⟩
    simp [F_Rk_reckon, opc, plet, pcall, pck, pI_I, pI_L, pI_R, pL_I, pL_L, pL_R, pR_I, pR_L, pR_R, c_push hS hC ht hh]
  · dsimp only at hc hv; subst hc; subst hv
    obtain ⟨p1, p2, p3, p4⟩ := push_facts hst (zzL M 17 k)
    have e : evS (cE M o ll) 97 (nI k) st = (0, zzL M 17 k :: st) := by simp [evS, cE, pnI (show k < 100000 by omega)]
    rw [rkP, e]
    refine ⟨_, ?_, p1, p2.trans hf, fun _ => ⟨p3, p4, hw⟩⟩
    have h1 : ¬ nI k < 0 := nI_pos (by omega)
    have h2 : nI k < (26 : Int32) := nI_lt (b := 26) hk (by omega)
    simp [F_Rk_reckon, opc, plet, pcall, pck, pI_I, pI_L, pI_R, pL_I, pL_L, pL_R, pR_I, pR_L, pR_R, h1, h2, cR_16_1 hC, cr_17 hS, pix (cn_17 hS) hk (by omega), pnI (show k < 100000 by omega), c_push hS hC ht hh]
  · dsimp only at hc; subst hc
    obtain ⟨p1, p2, p3, p4⟩ := push_facts hst (nI o).toInt64
    refine ⟨_, ?_, p1, p2.trans hf, fun _ => ⟨p3, p4, hw⟩⟩
    simp [F_Rk_reckon, opc, plet, pcall, pck, pI_I, pI_L, pI_R, pL_I, pL_L, pL_R, pR_I, pR_L, pR_R, cR_16_0 hC, cr_5 hS, ho, c_push hS hC ht hh]
  · dsimp only at hc; subst hc
    cases st with
    | nil => simp at hh
    | cons x r =>
      obtain ⟨p1, p2, p3, p4⟩ := pop_facts hst
      obtain ⟨q1, q2, q3, q4⟩ := push_facts p4 (-x)
      have e : evS (cE M o ll) 95 v (x :: r) = (0, (0 - x) :: r) := by simp [evS]
      have e0 : (0 : Int64) - x = -x := by simp
      rw [rkP, e, e0]
      refine ⟨_, ?_, p1.tr q1, (q2.trans p2).trans hf, fun _ => ⟨q3, q4, hw⟩⟩
      simp [F_Rk_reckon, opc, plet, pcall, pck, pI_I, pI_L, pI_R, pL_I, pL_L, pL_R, pR_I, pR_L, pR_R, c_pop hS hC ht (show r.length < 13 by simp at h13; omega), hst.1, c_push hS (p1.cR hC) p3 (show r.length < 13 by simp at h13; omega)]
  · dsimp only at hc hv; subst hc; subst hv
    cases st with
    | nil => simp at hh
    | cons x r =>
      have hr : r.length < 13 := by simp at h13; omega
      obtain ⟨p1, p2, p3, p4⟩ := pop_facts hst
      by_cases hx : x < 0 ∨ ¬ x < (nI o).toInt64
      · have e : evS (cE M o ll) 64 (nI k) (x :: r) = (2, x :: r) := by first | (rw [evS_64]; exact if_pos hx) | (rw [evS_39]; exact if_pos hx)
        obtain ⟨g1, g2, g3⟩ := fault_facts (M := zzsI M 16 3 (nI r.length)) 2
        obtain ⟨q1, q2, q3, q4⟩ := push_facts (M := zzsI (zzsI M 16 3 (nI r.length)) 16 4 2) p4 0
        rw [rkP, e]
        refine ⟨_, ?_, (p1.tr g1).tr q1, q2.trans g2, fun h => nomatch (show (1 : Nat) = 0 from absurd h (by simp))⟩
        simp [F_Rk_reckon, opc, plet, pcall, pck, pI_I, pI_L, pI_R, pL_I, pL_L, pL_R, pR_I, pR_L, pR_R, cR_16_0 hC, cr_5 hS, cR_5_0 hC, cr_6 hS, c_pop hS hC ht hr, hst.1]
        rw [c_slotOf (by simp [plet, pcall, pck, pI_I, pI_L, pI_R, pL_I, pL_L, pL_R, pR_I, pR_L, pR_R, ho]) ho2 hk, if_pos hx]
        simp [plet, pcall, pck, pI_I, pI_L, pI_R, pL_I, pL_L, pL_R, pR_I, pR_L, pR_R, c_cellN, c_push hS ((p1.tr g1).cR hC) (g3.trans p3) hr]
      · have hx' := hx
        simp only [not_or, Classical.not_not] at hx'
        obtain ⟨z, hz, e1, e2⟩ := pl_small (by omega) hx'.1 hx'.2
        have e : evS (cE M o ll) 64 (nI k) (x :: r) = (0, zzL M 6 (6 * z + k) :: r) := by rw [evS_64]; refine (if_neg hx).trans ?_; rw [e1, pnI (show z < 100000 by omega), pnI (show k < 100000 by omega)]; rfl
        obtain ⟨q1, q2, q3, q4⟩ := push_facts p4 (zzL M 6 (6 * z + k))
        rw [rkP, e]
        refine ⟨_, ?_, p1.tr q1, (q2.trans p2).trans hf, fun _ => ⟨q3, q4, hw⟩⟩
        simp [F_Rk_reckon, opc, plet, pcall, pck, pI_I, pI_L, pI_R, pL_I, pL_L, pL_R, pR_I, pR_L, pR_R, cR_16_0 hC, cr_5 hS, cR_5_0 hC, cr_6 hS, c_pop hS hC ht hr, hst.1]
        rw [c_slotOf (by simp [plet, pcall, pck, pI_I, pI_L, pI_R, pL_I, pL_L, pL_R, pR_I, pR_L, pR_R, ho]) ho2 hk, if_neg hx, e1, pnI (show z < 100000 by omega)]
        simp [plet, pcall, pck, pI_I, pI_L, pI_R, pL_I, pL_L, pL_R, pR_I, pR_L, pR_R, c_cell6 hS (show 6 * z + k < 72 by omega), c_push hS (p1.cR hC) p3 hr]
  · dsimp only at hc; subst hc
    cases st with
    | nil => simp at hh
    | cons x r =>
      have hr : r.length < 13 := by simp at h13; omega
      obtain ⟨p1, p2, p3, p4⟩ := pop_facts hst
      by_cases hx : x < 0 ∨ ¬ x < (nI ll).toInt64
      · have e : evS (cE M o ll) 39 v (x :: r) = (2, x :: r) := by first | (rw [evS_64]; exact if_pos hx) | (rw [evS_39]; exact if_pos hx)
        obtain ⟨g1, g2, g3⟩ := fault_facts (M := zzsI M 16 3 (nI r.length)) 2
        obtain ⟨q1, q2, q3, q4⟩ := push_facts (M := zzsI (zzsI M 16 3 (nI r.length)) 16 4 2) p4 0
        rw [rkP, e]
        refine ⟨_, ?_, (p1.tr g1).tr q1, q2.trans g2, fun h => nomatch (show (1 : Nat) = 0 from absurd h (by simp))⟩
        simp [F_Rk_reckon, opc, plet, pcall, pck, pI_I, pI_L, pI_R, pL_I, pL_L, pL_R, pR_I, pR_L, pR_R, cR_16_0 hC, cr_5 hS, cR_5_2 hC, cr_7 hS, c_pop hS hC ht hr, hst.1]
        rw [c_placeOf (show zzI (zzsI M 16 3 (nI r.length)) 5 3 = nI ll by simp [plet, pcall, pck, pI_I, pI_L, pI_R, pL_I, pL_L, pL_R, pR_I, pR_L, pR_R, hl]), if_pos hx]
        simp [plet, pcall, pck, pI_I, pI_L, pI_R, pL_I, pL_L, pL_R, pR_I, pR_L, pR_R, c_cellN, c_push hS ((p1.tr g1).cR hC) (g3.trans p3) hr]
      · have hx' := hx
        simp only [not_or, Classical.not_not] at hx'
        obtain ⟨z, hz, e1, e2⟩ := pl_small (by omega) hx'.1 hx'.2
        have e : evS (cE M o ll) 39 v (x :: r) = (0, zzL M 7 z :: r) := by rw [evS_39]; refine (if_neg hx).trans ?_; rw [e1, pnI (show z < 100000 by omega)]; rfl
        obtain ⟨q1, q2, q3, q4⟩ := push_facts p4 (zzL M 7 z)
        rw [rkP, e]
        refine ⟨_, ?_, p1.tr q1, (q2.trans p2).trans hf, fun _ => ⟨q3, q4, hw⟩⟩
        simp [F_Rk_reckon, opc, plet, pcall, pck, pI_I, pI_L, pI_R, pL_I, pL_L, pL_R, pR_I, pR_L, pR_R, cR_16_0 hC, cr_5 hS, cR_5_2 hC, cr_7 hS, c_pop hS hC ht hr, hst.1]
        rw [c_placeOf (show zzI (zzsI M 16 3 (nI r.length)) 5 3 = nI ll by simp [plet, pcall, pck, pI_I, pI_L, pI_R, pL_I, pL_L, pL_R, pR_I, pR_L, pR_R, hl]), if_neg hx, e1]
        simp [plet, pcall, pck, pI_I, pI_L, pI_R, pL_I, pL_L, pL_R, pR_I, pR_L, pR_R, c_cell7 hS (show z < 20 by omega), c_push hS (p1.cR hC) p3 hr]
  · cases st with
    | nil => simp at hh
    | cons x r =>
      cases r with
      | nil => simp at hh
      | cons w r =>
        have hr : r.length + 1 < 13 := by simp at h13; omega
        obtain ⟨p1, p2, p3, p4⟩ := pop_facts hst
        obtain ⟨u1, u2, u3, u4⟩ := pop_facts p4
        have hop : opc c = c := by rcases hc with h | h | h | h | h | h | h <;> dsimp only at h <;> subst h <;> decide
        have hne : c ≠ 35 ∧ c ≠ 39 ∧ c ≠ 64 ∧ c ≠ 110 ∧ c ≠ 118 ∧ c ≠ 126 ∧ c ≠ 48 ∧ c ≠ 97 ∧ c ≠ 95 := by rcases hc with h | h | h | h | h | h | h <;> dsimp only at h <;> subst h <;> decide
        obtain ⟨n1, n2, n3, n4, n5, n6, n7, n8, n9⟩ := hne
        have hcl : F_Rk_reckon S M 16 (opc c) v = zzcall (F_Rk_joined S (zzsI (zzsI M 16 3 (nI (w :: r).length)) 16 3 (nI r.length)) 16 c w x) fun r37 M => zzcall (F_Rk_push S M 16 r37) fun r38 M => some ((), M) := by
          rw [hop]
          simp only [F_Rk_reckon, if_neg n1, if_neg n2, if_neg n3, if_neg n4, if_neg n5, if_neg n6]
          rw [c_pop hS hC ht (by simpa using hr), pcall, c_pop hS (p1.cR hC) p3 (by omega), pcall]
          have e1 : zzL M 18 (w :: r).length = x := hst.1
          have e2 : zzL (zzsI M 16 3 (nI (w :: r).length)) 18 r.length = w := p4.1
          rw [e1, e2]
        by_cases hx : x = 0 ∧ (c = 47 ∨ c = 37)
        · have e : evS (cE M o ll) c v (x :: w :: r) = (1, w :: r) := by simp [evS, n7, n8, n1, n9, n3, n2, hx]
          obtain ⟨g1, g2, g3⟩ := fault_facts (M := zzsI (zzsI M 16 3 (nI (w :: r).length)) 16 3 (nI r.length)) 1
          obtain ⟨q1, q2, q3, q4⟩ := push_facts (M := zzsI (zzsI (zzsI M 16 3 (nI (w :: r).length)) 16 3 (nI r.length)) 16 4 1) u4 0
          show ∃ M1, _
          rw [e]
          refine ⟨_, ?_, ((p1.tr u1).tr g1).tr q1, q2.trans g2, fun h => nomatch (show (1 : Nat) = 0 from absurd h (by simp))⟩
          rw [hcl, c_joined hc, if_pos hx, pcall, c_push hS (((p1.tr u1).tr g1).cR hC) (g3.trans u3) (by omega), pcall]
        · have e : evS (cE M o ll) c v (x :: w :: r) = (0, joinE c w x :: r) := by simp only [evS, if_neg n7, if_neg n8, if_neg n1, if_neg n9, if_neg n3, if_neg n2, if_neg hx]
          obtain ⟨q1, q2, q3, q4⟩ := push_facts u4 (joinE c w x)
          show ∃ M1, _
          rw [e]
          refine ⟨_, ?_, (p1.tr u1).tr q1, ((q2.trans u2).trans p2).trans hf, fun _ => ⟨q3, q4, hw⟩⟩
          rw [hcl, c_joined hc, if_neg hx, pcall, c_push hS ((p1.tr u1).cR hC) u3 (by omega), pcall]
