/-! the reference's ask() -/
def frA (M M1 : zzM) : Prop := (∀ b j, ¬ (b = 28 ∧ j = 66) → zzI M1 b j = zzI M b j) ∧ (∀ b j, b ≠ 61 → ¬ (b = 28 ∧ j = 65) → zzL M1 b j = zzL M b j) ∧ M1.2.2 = M.2.2
theorem frA.rf (M : zzM) : frA M M := ⟨fun _ _ _ => rfl, fun _ _ _ _ => rfl, rfl⟩
theorem frA.tr {M M1 M2 : zzM} (h : frA M M1) (h2 : frA M1 M2) : frA M M2 := ⟨fun b j hb => (h2.1 b j hb).trans (h.1 b j hb), fun b j hb hc => (h2.2.1 b j hb hc).trans (h.2.1 b j hb hc), h2.2.2.trans h.2.2⟩
theorem frA.R {M M1 : zzM} (h : frA M M1) (hR : mdR M) : mdR M1 := fun k hk => by
  have := hR k hk
  unfold zzR at this ⊢
  rw [h.2.2]; exact this
theorem frA_66 {M : zzM} (v : Int32) : frA M (zzsI M 28 66 v) := by
  refine ⟨fun b j hb => ?_, fun b j _ _ => rfl, rfl⟩
  simp only [plet, pcall, pck, pI_I, pI_L, pI_R, pL_I, pL_L, pL_R, pR_I, pR_L, pR_R]
  by_cases h1 : b = 28
  · by_cases h2 : j = 66
    · exact absurd ⟨h1, h2⟩ hb
    · simp [h1, h2]
  · simp [h1]
theorem frA_65 {M : zzM} (v : Int64) : frA M (zzsL M 28 65 v) := by
  refine ⟨fun b j hb => rfl, fun b j hb hc => ?_, rfl⟩
  simp only [plet, pcall, pck, pI_I, pI_L, pI_R, pL_I, pL_L, pL_R, pR_I, pR_L, pR_R]
  by_cases h1 : b = 28
  · by_cases h2 : j = 65
    · exact absurd ⟨h1, h2⟩ hc
    · simp [h1, h2]
  · simp [h1]
theorem frA_61 {M : zzM} (k : Nat) (v : Int64) : frA M (zzsL M 61 k v) := by
  refine ⟨fun b j hb => rfl, fun b j hb hc => ?_, rfl⟩
  simp only [plet, pcall, pck, pI_I, pI_L, pI_R, pL_I, pL_L, pL_R, pR_I, pR_L, pR_R, if_neg hb]
/-- where the reference reckons -/
def mK (M : zzM) (o ll : Nat) : Prop := mdR M ∧ zzI M 28 28 = nI o ∧ o ≤ 12 ∧ zzI M 28 30 = nI ll ∧ ll ≤ 20
def mE (M : zzM) (o ll : Nat) : pxE := (zzL M 47, zzL M 45, o, zzL M 46, ll)
theorem mK.go {M M1 : zzM} {o ll : Nat} (h : mK M o ll) (hf : frA M M1) : mK M1 o ll := ⟨hf.R h.1, (hf.1 28 28 (by omega)).trans h.2.1, h.2.2.1, (hf.1 28 30 (by omega)).trans h.2.2.2.1, h.2.2.2.2⟩
theorem mE.go {M M1 : zzM} {o ll : Nat} (hf : frA M M1) : mE M1 o ll = mE M o ll := by
  have h1 : zzL M1 47 = zzL M 47 := funext fun j => hf.2.1 47 j (by omega) (by omega)
  have h2 : zzL M1 45 = zzL M 45 := funext fun j => hf.2.1 45 j (by omega) (by omega)
  have h3 : zzL M1 46 = zzL M 46 := funext fun j => hf.2.1 46 j (by omega) (by omega)
  unfold mE
  rw [h1, h2, h3]
/-- the reference holds codes from k on -/
def cmR (M : zzM) (k : Nat) (cs : List (Int32 × Int32)) : Prop := k + cs.length < 2000 ∧ (∀ i q, cs[i]? = some q → zzI M 39 (k + i) = q.1 ∧ zzI M 40 (k + i) = q.2) ∧ zzI M 39 (k + cs.length) = 0
theorem cmR.frA {M M1 : zzM} {k : Nat} {cs : List (Int32 × Int32)} (h : cmR M k cs) (hf : frA M M1) : cmR M1 k cs := ⟨h.1, fun i q hq => by rw [hf.1 39 _ (by omega), hf.1 40 _ (by omega)]; exact h.2.1 i q hq, by rw [hf.1 39 _ (by omega)]; exact h.2.2⟩
theorem cmR.tl {M : zzM} {k : Nat} {q : Int32 × Int32} {cs : List (Int32 × Int32)} (h : cmR M k (q :: cs)) : cmR M (k + 1) cs := ⟨by have := h.1; simp at this; omega, fun i r hr => by
  have := h.2.1 (i + 1) r (by simpa using hr)
  rw [show k + 1 + i = k + (i + 1) by omega]; exact this, by
  have := h.2.2
  rw [List.length_cons] at this
  rw [show k + 1 + cs.length = k + (cs.length + 1) by omega]; exact this⟩
theorem ask_step {S : zzS} {n : Nat} : F_Md_ask_18 S (n + 1) = F_Md_ask_18_b S (F_Md_ask_18 S n) := rfl
theorem m_push {M : zzM} {st : List Int64} (hst : stR (zzL M 61) st) (v : Int64) : frA M (zzsL M 61 st.length v) ∧ stR (zzL (zzsL M 61 st.length v) 61) (v :: st) := by
  refine ⟨frA_61 _ _, by simp [plet, pcall, pck, pI_I, pI_L, pI_R, pL_I, pL_L, pL_R, pR_I, pR_L, pR_R], stR_far hst (fun i hi => ?_)⟩
  have : i ≠ st.length := by omega
  simp [plet, pcall, pck, pI_I, pI_L, pI_R, pL_I, pL_L, pL_R, pR_I, pR_L, pR_R, this]
theorem m_top {M : zzM} {x : Int64} {r : List Int64} (hst : stR (zzL M 61) (x :: r)) (v : Int64) : frA M (zzsL M 61 r.length v) ∧ stR (zzL (zzsL M 61 r.length v) 61) (v :: r) := m_push hst.2 v
theorem m_isObject {S : zzS} {M : zzM} {o : Nat} (ho : zzI M 28 28 = nI o) (x : Int64) : F_Md_isObject S M 28 x = some (if x < 0 ∨ ¬ x < (nI o).toInt64 then 0 else 1, M) := by
  simp only [F_Md_isObject, plet, pcall, pck, pI_I, pI_L, pI_R, pL_I, pL_L, pL_R, pR_I, pR_L, pR_R, ho, pcmp_lt, pcmp_ge]
  by_cases a1 : x < 0
  · simp only [a1, true_or, if_true]
  · by_cases a2 : x < (nI o).toInt64
    · simp only [a1, a2, not_true, or_self, if_false]
    · simp only [a1, a2, not_false_iff, or_true, if_true, if_false]
theorem m_reckon {S : zzS} {M : zzM} {c : Int32} (hc : pjt c) (x y : Int64) (h : ¬ (y = 0 ∧ (c = 47 ∨ c = 37))) : F_Md_reckon S M c x y = some (joinE c x y, M) := by
  by_cases hy : y = 0
  · rcases hc with rfl | rfl | rfl | rfl | rfl | rfl | rfl <;> simp [hy] at h <;> simp [F_Md_reckon, plet, pcall, pck, pI_I, pI_L, pI_R, pL_I, pL_L, pL_R, pR_I, pR_L, pR_R, pcmp_lt, pcmp_ge, pcmp_eq, hy, joinE]
    · rw [p_lt60, p_some]
    · rw [p_some]
  · have hb := p_bne hy
    rcases hc with rfl | rfl | rfl | rfl | rfl | rfl | rfl <;> simp [F_Md_reckon, plet, pcall, pck, pI_I, pI_L, pI_R, pL_I, pL_L, pL_R, pR_I, pR_L, pR_R, pcmp_lt, pcmp_ge, pcmp_eq, hy, joinE]
    · rw [hb]; rfl
    · rw [hb]; rfl
    · rw [p_lt60, p_some]
    · rw [p_some]
abbrev akP (M : zzM) (E : pxE) (q : Int32 × Int32) (cs : List (Int32 × Int32)) (st : List Int64) (k : Nat) : Prop := ∃ M1 h1, (∀ n, F_Md_ask_18 lwSm (n + 1) M 28 (nI st.length) (nI k) = F_Md_ask_18 lwSm n M1 28 (nI h1) (nI (k + 1))) ∧ frA M M1 ∧ zzI M1 28 66 = (evS E q.1 q.2 st).1 ∧ h1 ≤ 13 ∧ ((evS E q.1 q.2 st).1 = 0 → h1 = (evS E q.1 q.2 st).2.length ∧ stR (zzL M1 61) (evS E q.1 q.2 st).2 ∧ wfC cs h1)
theorem ask_head {M : zzM} {k n : Nat} {c : Int32} (hR : mdR M) {st : List Int64} (hf : zzI M 28 66 = 0) (hst : stR (zzL M 61) st) (hk : k < 2000) (hc : zzI M 39 k = c) (hc0 : c ≠ 0) (h13 : st.length ≤ 13) : F_Md_ask_18 lwSm (n + 1) M 28 (nI st.length) (nI k) = F_Md_ask_58 lwSm (F_Md_ask_18 lwSm n) M 28 (nI st.length) (nI k) c (st.headD 0) := by
  rw [ask_step]
  simp only [F_Md_ask_18_b, plet, pcall, pck, pI_I, pI_L, pI_R, pL_I, pL_L, pL_R, pR_I, pR_L, pR_R, mR_13 hR, mr_39, pix (S := lwSm) mn_39 hk (by omega), pnI (show k < 100000 by omega), hc, if_neg hc0, hf, if_true]
  cases st with
  | nil => exact if_pos (by decide)
  | cons x r =>
    simp only [List.length_cons] at h13
    rw [if_neg (nI_nle (by simp) (by simp only [List.length_cons]; omega))]
    simp only [mR_64 hR, mr_61, List.length_cons, nI_pred, pix (S := lwSm) (k := r.length) mn_61 (by omega) (by omega), pnI (show r.length < 100000 by omega), plet, pcall, pck, pI_I, pI_L, pI_R, pL_I, pL_L, pL_R, pR_I, pR_L, pR_R, hst.1, List.headD]
theorem m_step {M : zzM} {o ll k : Nat} (hK : mK M o ll) {st : List Int64} (hf : zzI M 28 66 = 0) (hst : stR (zzL M 61) st) {q : Int32 × Int32} {cs : List (Int32 × Int32)} (hc : cmR M k (q :: cs)) (hw : wfC (q :: cs) st.length) (h13 : st.length ≤ 13) : akP M (mE M o ll) q cs st k := by
  obtain ⟨hR, ho, ho2, hl, hl2⟩ := hK
  have hk : k < 2000 := by have := hc.1; omega
  have hcd := hc.2.1 0 q (by simp)
  rw [Nat.add_zero] at hcd
  obtain ⟨c, v⟩ := q
  obtain ⟨hc1, hc2⟩ := hcd
  dsimp only at hc1 hc2
  have hx14 := pix (S := lwSm) mn_40 hk (by omega) (β := Int32 × zzM)
  have hkn := pnI (show k < 100000 by omega)
  have hs := pix (S := lwSm) (k := st.length) mn_61 (by omega) (by omega) (β := Int32 × zzM)
  have hsn := pnI (show st.length < 100000 by omega)
  rcases hw with ⟨he, hh, hw⟩ | ⟨he, ⟨d, hd, hv⟩, hh, hw⟩ | ⟨he, hh, hw⟩ | ⟨he, hh, hw⟩ | ⟨he, ⟨d, hd, hv⟩, hh, hw⟩ | ⟨he, hh, hw⟩ | ⟨he, hh, hw⟩
  · dsimp only at he; subst he
    obtain ⟨p1, p2⟩ := m_push hst v.toInt64
    refine ⟨_, st.length + 1, fun n => ?_, p1, hf, by omega, fun _ => ⟨rfl, p2, hw⟩⟩
    rw [ask_head hR hf hst hk hc1 (by decide) h13]
    simp only [F_Md_ask_58, F_Md_ask_81, plet, pcall, pck, pI_I, pI_L, pI_R, pL_I, pL_L, pL_R, pR_I, pR_L, pR_R, mR_64 hR, mr_61, mR_14 hR, mr_40, hx14, hkn, hc2, if_true, hs, hsn, nI_succ]
  · dsimp only at he hv; subst he; subst hv
    have e : evS (mE M o ll) 97 (nI d) st = (0, zzL M 47 d :: st) := by simp [evS, mE, pnI (show d < 100000 by omega)]
    show ∃ M1, _
    rw [e]
    obtain ⟨p1, p2⟩ := m_push hst (zzL M 47 d)
    refine ⟨_, st.length + 1, fun n => ?_, p1, hf, by omega, fun _ => ⟨rfl, p2, hw⟩⟩
    rw [ask_head hR hf hst hk hc1 (by decide) h13]
    rw [F_Md_ask_58, if_neg (by decide), if_pos rfl, F_Md_ask_81]
    simp only [plet, pcall, pck, pI_I, pI_L, pI_R, pL_I, pL_L, pL_R, pR_I, pR_L, pR_R, mR_64 hR, mr_61, mR_33 hR, mr_47, mR_14 hR, mr_40, hx14, hkn, hc2, pix (S := lwSm) (k := d) mn_47 (by omega) (by omega), pnI (show d < 100000 by omega), if_true, hs, hsn, nI_succ]
    rw [if_neg (by decide)]
  · dsimp only at he; subst he
    obtain ⟨p1, p2⟩ := m_push hst (nI o).toInt64
    refine ⟨_, st.length + 1, fun n => ?_, p1, hf, by omega, fun _ => ⟨rfl, p2, hw⟩⟩
    rw [ask_head hR hf hst hk hc1 (by decide) h13]
    rw [F_Md_ask_58, if_neg (by decide), if_neg (by decide), if_pos rfl, F_Md_ask_81, mR_64 hR, mr_61, if_neg (by decide), if_neg (by decide)]
    simp only [plet, pcall, pck, pI_I, pI_L, pI_R, pL_I, pL_L, pL_R, pR_I, pR_L, pR_R, ho, hs, hsn, nI_succ]
  · dsimp only at he; subst he
    cases st with
    | nil => simp at hh
    | cons x r =>
      simp only [List.length_cons] at h13
      have e : evS (mE M o ll) 95 v (x :: r) = (0, (0 - x) :: r) := by simp [evS]
      show ∃ M1, _
      rw [e]
      obtain ⟨p1, p2⟩ := m_top hst (0 - x)
      refine ⟨_, r.length + 1, fun n => ?_, p1, hf, by omega, fun _ => ⟨rfl, p2, hw⟩⟩
      rw [ask_head hR hf hst hk hc1 (by decide) h13]
      rw [F_Md_ask_58, if_neg (by decide), if_neg (by decide), if_neg (by decide), if_pos rfl]
      simp only [plet, pcall, pck, pI_I, pI_L, pI_R, pL_I, pL_L, pL_R, pR_I, pR_L, pR_R, mR_64 hR, mr_61, List.length_cons, nI_pred, pix (S := lwSm) (k := r.length) mn_61 (by omega) (by omega), pnI (show r.length < 100000 by omega), List.headD]
      rw [nI_succ k]
  · dsimp only at he hv; subst he; subst hv
    cases st with
    | nil => simp at hh
    | cons x r =>
      simp only [List.length_cons] at h13
      have hd0 : ∀ n, F_Md_ask_18 lwSm (n + 1) M 28 (nI (x :: r).length) (nI k) = F_Md_ask_180 lwSm (F_Md_ask_18 lwSm n) M 28 (nI (r.length + 1)) (nI k) x (if x < 0 ∨ ¬ x < (nI o).toInt64 then 2 else 0) 28 := fun n => by
        rw [ask_head hR hf hst hk hc1 (by decide) h13]
        rw [F_Md_ask_58, if_neg (by decide), if_neg (by decide), if_neg (by decide), if_neg (by decide), if_pos rfl]
        simp only [List.headD, m_isObject ho, plet, pcall, pck, pI_I, pI_L, pI_R, pL_I, pL_L, pL_R, pR_I, pR_L, pR_R]
        by_cases hx : x < 0 ∨ ¬ x < (nI o).toInt64
        · simp only [if_pos hx, if_true, List.length_cons]
        · simp only [if_neg hx, List.length_cons]
          rw [if_neg (by decide)]
      by_cases hx : x < 0 ∨ ¬ x < (nI o).toInt64
      · have e : evS (mE M o ll) 64 (nI d) (x :: r) = (2, x :: r) := by rw [evS_64]; exact if_pos hx
        show ∃ M1, _
        rw [e]
        refine ⟨_, r.length + 1, fun n => ?_, frA_66 2, by simp [plet, pcall, pck, pI_I, pI_L, pI_R, pL_I, pL_L, pL_R, pR_I, pR_L, pR_R], by omega, fun h => nomatch (show (1 : Nat) = 0 from absurd h (by simp))⟩
        rw [hd0, if_pos hx, F_Md_ask_180]
        simp [plet, pcall, pck, pI_I, pI_L, pI_R, pL_I, pL_L, pL_R, pR_I, pR_L, pR_R]
        rw [nI_succ k]
      · have hx' := hx
        simp only [not_or, Classical.not_not] at hx'
        obtain ⟨z, hz, e1, e2⟩ := pl_small (by omega) hx'.1 hx'.2
        have e : evS (mE M o ll) 64 (nI d) (x :: r) = (0, zzL M 45 (6 * z + d) :: r) := by rw [evS_64]; refine (if_neg hx).trans ?_; rw [e1, pnI (show z < 100000 by omega), pnI (show d < 100000 by omega)]; rfl
        show ∃ M1, _
        rw [e]
        obtain ⟨p1, p2⟩ := m_top (M := zzsI M 28 66 0) hst (zzL M 45 (6 * z + d))
        refine ⟨_, r.length + 1, fun n => ?_, (frA_66 0).tr p1, by simp [plet, pcall, pck, pI_I, pI_L, pI_R, pL_I, pL_L, pL_R, pR_I, pR_L, pR_R], by omega, fun _ => ⟨rfl, p2, hw⟩⟩
        rw [hd0, if_neg hx, F_Md_ask_180]
        have e6 : (6 : Int32) * nI z + nI d = nI (6 * z + d) := by show nI 6 * nI z + nI d = _; rw [nI_mul, nI_add]
        have hR1 : mdR (zzsI M 28 66 0) := hR
        simp only [plet, pcall, pck, pI_I, pI_L, pI_R, pL_I, pL_L, pL_R, pR_I, pR_L, pR_R, if_true, mR_64 hR1, mr_61, nI_pred, mR_29 hR1, mr_45, e1, mR_14 hR1, mr_40, hx14, hkn, if_neg (show ¬ 40 = 28 by decide), hc2, e6, pix (S := lwSm) (k := 6 * z + d) mn_45 (by omega) (by omega), pnI (show 6 * z + d < 100000 by omega), pix (S := lwSm) (k := r.length) mn_61 (by omega) (by omega), pnI (show r.length < 100000 by omega)]
        rw [nI_succ k]
  · dsimp only at he; subst he
    cases st with
    | nil => simp at hh
    | cons x r =>
      simp only [List.length_cons] at h13
      have hd0 : ∀ n, F_Md_ask_18 lwSm (n + 1) M 28 (nI (x :: r).length) (nI k) = F_Md_ask_250 lwSm (F_Md_ask_18 lwSm n) M 28 (nI (r.length + 1)) (nI k) x (if x < 0 ∨ ¬ x < (nI ll).toInt64 then 2 else 0) 28 := fun n => by
        rw [ask_head hR hf hst hk hc1 (by decide) h13]
        rw [F_Md_ask_58, if_neg (by decide), if_neg (by decide), if_neg (by decide), if_neg (by decide), if_neg (by decide), if_pos rfl]
        simp only [List.headD, hl, plet, pcall, pck, pI_I, pI_L, pI_R, pL_I, pL_L, pL_R, pR_I, pR_L, pR_R, pcmp_lt, pcmp_ge, F_Md_ask_249, List.length_cons]
        by_cases h1 : x < 0
        · simp only [h1, true_or, if_true]
        · by_cases h2 : x < (nI ll).toInt64
          · simp only [h1, h2, not_true, or_self, if_false]
          · simp only [h1, h2, not_false_iff, or_true, if_true, if_false]
      by_cases hx : x < 0 ∨ ¬ x < (nI ll).toInt64
      · have e : evS (mE M o ll) 39 v (x :: r) = (2, x :: r) := by rw [evS_39]; exact if_pos hx
        show ∃ M1, _
        rw [e]
        refine ⟨_, r.length + 1, fun n => ?_, frA_66 2, by simp [plet, pcall, pck, pI_I, pI_L, pI_R, pL_I, pL_L, pL_R, pR_I, pR_L, pR_R], by omega, fun h => nomatch (show (1 : Nat) = 0 from absurd h (by simp))⟩
        rw [hd0, if_pos hx, F_Md_ask_250]
        simp [plet, pcall, pck, pI_I, pI_L, pI_R, pL_I, pL_L, pL_R, pR_I, pR_L, pR_R]
        rw [nI_succ k]
      · have hx' := hx
        simp only [not_or, Classical.not_not] at hx'
        obtain ⟨z, hz, e1, e2⟩ := pl_small (by omega) hx'.1 hx'.2
        have e : evS (mE M o ll) 39 v (x :: r) = (0, zzL M 46 z :: r) := by rw [evS_39]; refine (if_neg hx).trans ?_; rw [e1, pnI (show z < 100000 by omega)]; rfl
        show ∃ M1, _
        rw [e]
        obtain ⟨p1, p2⟩ := m_top (M := zzsI M 28 66 0) hst (zzL M 46 z)
        refine ⟨_, r.length + 1, fun n => ?_, (frA_66 0).tr p1, by simp [plet, pcall, pck, pI_I, pI_L, pI_R, pL_I, pL_L, pL_R, pR_I, pR_L, pR_R], by omega, fun _ => ⟨rfl, p2, hw⟩⟩
        rw [hd0, if_neg hx, F_Md_ask_250]
        have hR1 : mdR (zzsI M 28 66 0) := hR
        simp only [plet, pcall, pck, pI_I, pI_L, pI_R, pL_I, pL_L, pL_R, pR_I, pR_L, pR_R, if_true, mR_64 hR1, mr_61, nI_pred, mR_31 hR1, mr_46, e1, pix (S := lwSm) (k := z) mn_46 (by omega) (by omega), pnI (show z < 100000 by omega), pix (S := lwSm) (k := r.length) mn_61 (by omega) (by omega), pnI (show r.length < 100000 by omega)]
        rw [nI_succ k]
  · cases st with
    | nil => simp at hh
    | cons x r =>
      cases r with
      | nil => simp at hh
      | cons w r =>
        simp only [List.length_cons] at h13
        dsimp only at he
        have hne : c ≠ 35 ∧ c ≠ 39 ∧ c ≠ 64 ∧ c ≠ 0 ∧ c ≠ 48 ∧ c ≠ 97 ∧ c ≠ 95 := by rcases he with h | h | h | h | h | h | h <;> subst h <;> decide
        obtain ⟨n1, n2, n3, n4, n7, n8, n9⟩ := hne
        have hd0 : ∀ n, F_Md_ask_18 lwSm (n + 1) M 28 (nI (x :: w :: r).length) (nI k) = F_Md_ask_306 lwSm (F_Md_ask_18 lwSm n) M 28 (nI (r.length + 1 + 1)) (nI k) c x (if x = 0 ∧ (c = 47 ∨ c = 37) then 1 else 0) 28 := fun n => by
          rw [ask_head hR hf hst hk hc1 n4 h13]
          rw [F_Md_ask_58, if_neg n7, if_neg n8, if_neg n1, if_neg n9, if_neg n3, if_neg n2]
          simp only [List.headD, plet, pcall, pck, pI_I, pI_L, pI_R, pL_I, pL_L, pL_R, pR_I, pR_L, pR_R, pcmp_eq, F_Md_ask_301, F_Md_ask_305, List.length_cons]
          by_cases h1 : x = 0
          · by_cases h2 : c = 47
            · simp only [h1, h2, true_or, and_self, if_true]
            · by_cases h3 : c = 37
              · simp only [h1, h3, or_true, and_self, if_true]
                rw [if_neg (by decide)]
              · simp only [h1, h2, h3, or_self, and_false, if_true, if_false]
          · simp only [h1, false_and, if_false]
        by_cases hx : x = 0 ∧ (c = 47 ∨ c = 37)
        · have e : evS (mE M o ll) c v (x :: w :: r) = (1, w :: r) := by simp only [evS, if_neg n7, if_neg n8, if_neg n1, if_neg n9, if_neg n3, if_neg n2, if_pos hx]
          show ∃ M1, _
          rw [e]
          refine ⟨_, r.length + 1, fun n => ?_, frA_66 1, by simp [plet, pcall, pck, pI_I, pI_L, pI_R, pL_I, pL_L, pL_R, pR_I, pR_L, pR_R], by omega, fun h => nomatch (show (1 : Nat) = 0 from absurd h (by simp))⟩
          rw [hd0, if_pos hx, F_Md_ask_306]
          simp [plet, pcall, pck, pI_I, pI_L, pI_R, pL_I, pL_L, pL_R, pR_I, pR_L, pR_R, pk_m1]
          rw [nI_succ k]
        · have e : evS (mE M o ll) c v (x :: w :: r) = (0, joinE c w x :: r) := by simp only [evS, if_neg n7, if_neg n8, if_neg n1, if_neg n9, if_neg n3, if_neg n2, if_neg hx]
          show ∃ M1, _
          rw [e]
          obtain ⟨p1, p2⟩ := m_top (M := zzsI M 28 66 0) hst.2 (joinE c w x)
          refine ⟨_, r.length + 1, fun n => ?_, (frA_66 0).tr p1, by simp [plet, pcall, pck, pI_I, pI_L, pI_R, pL_I, pL_L, pL_R, pR_I, pR_L, pR_R], by omega, fun _ => ⟨rfl, p2, hw⟩⟩
          rw [hd0, if_neg hx, F_Md_ask_306]
          have hR1 : mdR (zzsI M 28 66 0) := hR
          simp only [plet, pcall, pck, pI_I, pI_L, pI_R, pL_I, pL_L, pL_R, pR_I, pR_L, pR_R, pk_m1, if_true, mR_64 hR1, mr_61, nI_pred, hst.2.1, m_reckon he w x hx, pix (S := lwSm) (k := r.length) mn_61 (by omega) (by omega), pnI (show r.length < 100000 by omega)]
          rw [nI_succ k]
theorem m_ask_end {M : zzM} {h k n : Nat} (hR : mdR M) (hh : h ≤ 13) (hk : k < 2000) (he : zzI M 39 k = 0 ∨ zzI M 28 66 ≠ 0) : ∃ M1, F_Md_ask_18 lwSm (n + 1) M 28 (nI h) (nI k) = some (if zzI M 28 66 = 0 then 1 else 0, M1) ∧ frA M M1 ∧ zzI M1 28 66 = zzI M 28 66 ∧ (∀ x r, h = List.length (x :: r) → stR (zzL M 61) (x :: r) → zzL M1 28 65 = x) := by
  have h1 : F_Md_ask_18 lwSm (n + 1) M 28 (nI h) (nI k) = F_Md_ask_348 lwSm M 28 (nI h) := by
    rw [ask_step]
    simp only [F_Md_ask_18_b, plet, pcall, pck, pI_I, pI_L, pI_R, pL_I, pL_L, pL_R, pR_I, pR_L, pR_R, mR_13 hR, mr_39, pix (S := lwSm) mn_39 hk (by omega), pnI (show k < 100000 by omega)]
    by_cases h0 : zzI M 39 k = 0
    · rw [if_pos h0]
    · rcases he with he | he
      · exact absurd he h0
      · rw [if_neg h0, if_neg he]
  rw [h1, F_Md_ask_348]
  cases h with
  | zero =>
    refine ⟨_, ?_, frA_65 0, by simp [plet, pcall, pck, pI_I, pI_L, pI_R, pL_I, pL_L, pL_R, pR_I, pR_L, pR_R], fun x r hx => absurd hx (by simp)⟩
    rw [if_pos (by decide)]
    simp only [plet, pcall, pck, pI_I, pI_L, pI_R, pL_I, pL_L, pL_R, pR_I, pR_L, pR_R]
    exact p_some _ _ _ _ _
  | succ h =>
    refine ⟨_, ?_, frA_65 (zzL M 61 h), by simp [plet, pcall, pck, pI_I, pI_L, pI_R, pL_I, pL_L, pL_R, pR_I, pR_L, pR_R], fun x r hx hs => ?_⟩
    · rw [if_neg (nI_nle (by omega) (by omega))]
      simp only [plet, pcall, pck, pI_I, pI_L, pI_R, pL_I, pL_L, pL_R, pR_I, pR_L, pR_R, mR_64 hR, mr_61, nI_pred, pix (S := lwSm) (k := h) mn_61 (by omega) (by omega), pnI (show h < 100000 by omega)]
      exact p_some _ _ _ _ _
    · have : h = r.length := by simpa using hx
      subst this
      simp [plet, pcall, pck, pI_I, pI_L, pI_R, pL_I, pL_L, pL_R, pR_I, pR_L, pR_R, hs.1]
theorem m_ask_loop {o ll : Nat} {E : pxE} : ∀ (cs : List (Int32 × Int32)) (n : Nat) (M : zzM) (st : List Int64) (k : Nat), cs.length < n → cmR M k cs → mK M o ll → mE M o ll = E → zzI M 28 66 = 0 → stR (zzL M 61) st → wfC cs st.length → st.length ≤ 13 → ∃ M1, F_Md_ask_18 lwSm n M 28 (nI st.length) (nI k) = some (if (evL E cs st).1 = 0 then 1 else 0, M1) ∧ frA M M1 ∧ zzI M1 28 66 = (evL E cs st).1 ∧ ((evL E cs st).1 = 0 → zzL M1 28 65 = (evL E cs st).2.headD 0)
  | [], n + 1, M, st, k, hn, hc, hK, hE, hf, hst, hw, h13 => by
    cases st with
    | nil => exact absurd hw (by simp [wfC])
    | cons x r =>
      obtain ⟨M1, a1, a2, a3, a4⟩ := m_ask_end (n := n) (k := k) hK.1 h13 (by have := hc.1; omega) (Or.inl (by have := hc.2.2; simpa using this))
      refine ⟨M1, ?_, a2, a3.trans hf, fun _ => a4 x r rfl hst⟩
      rw [a1, hf]
      rfl
  | q :: cs, n + 1, M, st, k, hn, hc, hK, hE, hf, hst, hw, h13 => by
    subst hE
    obtain ⟨M1, h1, a1, a2, a3, a4, a5⟩ := m_step hK hf hst hc hw h13
    rw [a1 n]
    by_cases h0 : (evS (mE M o ll) q.1 q.2 st).1 = 0
    · obtain ⟨b1, b2, b3⟩ := a5 h0
      subst b1
      have e : evL (mE M o ll) (q :: cs) st = evL (mE M o ll) cs (evS (mE M o ll) q.1 q.2 st).2 := if_pos h0
      rw [e]
      obtain ⟨M2, d1, d2, d3, d4⟩ := m_ask_loop cs n M1 _ (k + 1) (by simp at hn; omega) (hc.frA a2).tl (hK.go a2) (mE.go a2) (a3.trans h0) b2 b3 a4
      exact ⟨M2, d1, a2.tr d2, d3, d4⟩
    · have e : evL (mE M o ll) (q :: cs) st = evS (mE M o ll) q.1 q.2 st := if_neg h0
      rw [e]
      cases n with
      | zero => simp at hn
      | succ n =>
        obtain ⟨M2, d1, d2, d3, d4⟩ := m_ask_end (M := M1) (h := h1) (k := k + 1) (n := n) (a2.R hK.1) a4 (by have := hc.1; simp at this; omega) (Or.inr (by rw [a3]; exact h0))
        refine ⟨M2, ?_, a2.tr d2, d3.trans a3, fun h => absurd h h0⟩
        rw [d1, a3]
theorem m_ask {M : zzM} {o ll w f : Nat} {cs : List (Int32 × Int32)} (hK : mK M o ll) (hw1 : zzI M 28 3 = nI w) (hc : cmR M (1000 * w + f) cs) (hw : wfC cs 0) : ∃ M1, F_Md_ask lwSm M 28 (nI f) = some (if (evR (mE M o ll) cs).1 = 0 then 1 else 0, M1) ∧ frA M M1 ∧ zzI M1 28 66 = (evR (mE M o ll) cs).1 ∧ ((evR (mE M o ll) cs).1 = 0 → zzL M1 28 65 = (evR (mE M o ll) cs).2) := by
  have hf := frA_66 (M := M) 0
  obtain ⟨M1, a1, a2, a3, a4⟩ := m_ask_loop (E := mE M o ll) cs 2000 (zzsI M 28 66 0) [] (1000 * w + f) (by have := hc.1; omega) (hc.frA hf) (hK.go hf) (mE.go hf) (by simp [plet, pcall, pck, pI_I, pI_L, pI_R, pL_I, pL_L, pL_R, pR_I, pR_L, pR_R]) trivial hw (by simp)
  refine ⟨M1, ?_, hf.tr a2, a3, fun h => ?_⟩
  · have e : (1000 : Int32) * nI w + nI f = nI (1000 * w + f) := by show nI 1000 * nI w + nI f = _; rw [nI_mul, nI_add]
    simp only [F_Md_ask, plet, pcall, pck, pI_I, pI_L, pI_R, pL_I, pL_L, pL_R, pR_I, pR_L, pR_R, if_neg (show ¬ 3 = 66 by decide), ite_self, hw1, e]
    exact a1
  · have h' : (evL (mE M o ll) cs []).1 = 0 := h
    rw [a4 h']
    exact (if_pos h').symm
