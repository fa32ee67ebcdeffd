/-! values: the class's value() and the reference's ask() over one list of codes -/
theorem evS_len {E : pxE} {q : Int32 × Int32} {cs : List (Int32 × Int32)} {st : List Int64} (hw : wfC (q :: cs) st.length) (h : st.length ≤ 13) : (evS E q.1 q.2 st).2.length ≤ 13 := by
  obtain ⟨c, v⟩ := q
  unfold evS
  by_cases h1 : c = 48
  · subst h1
    rcases hw with ⟨_, hh, _⟩ | ⟨hc, _⟩ | ⟨hc, _⟩ | ⟨hc, _⟩ | ⟨hc, _⟩ | ⟨hc, _⟩ | ⟨hc, _⟩
    · simp only [if_true, List.length_cons]; omega
    all_goals first | (dsimp only at hc; exact absurd hc (by decide)) | (rcases hc with hc | hc | hc | hc | hc | hc | hc <;> dsimp only at hc <;> exact absurd hc (by decide))
  · by_cases h2 : c = 97
    · subst h2
      rcases hw with ⟨hc, _⟩ | ⟨_, _, hh, _⟩ | ⟨hc, _⟩ | ⟨hc, _⟩ | ⟨hc, _⟩ | ⟨hc, _⟩ | ⟨hc, _⟩
      rotate_left
      · simp only [if_neg h1, if_true, List.length_cons]; omega
      all_goals first | (dsimp only at hc; exact absurd hc (by decide)) | (rcases hc with hc | hc | hc | hc | hc | hc | hc <;> dsimp only at hc <;> exact absurd hc (by decide))
    · by_cases h3 : c = 35
      · subst h3
        rcases hw with ⟨hc, _⟩ | ⟨hc, _⟩ | ⟨_, hh, _⟩ | ⟨hc, _⟩ | ⟨hc, _⟩ | ⟨hc, _⟩ | ⟨hc, _⟩
        rotate_left 2
        · simp only [if_neg h1, if_neg h2, if_true, List.length_cons]; omega
        all_goals first | (dsimp only at hc; exact absurd hc (by decide)) | (rcases hc with hc | hc | hc | hc | hc | hc | hc <;> dsimp only at hc <;> exact absurd hc (by decide))
      · simp only [if_neg h1, if_neg h2, if_neg h3]
        cases st with
        | nil => simp
        | cons x r =>
          simp only [List.length_cons] at h
          dsimp only
          split
          · simpa using h
          · split
            · split <;> simpa using h
            · split
              · split <;> simpa using h
              · cases r with
                | nil => simp
                | cons w r =>
                  simp only [List.length_cons] at h
                  dsimp only
                  split <;> simp <;> omega
/-- an expression's answer: the kind of its error, its value -/
def evR (E : pxE) (cs : List (Int32 × Int32)) : Int32 × Int64 := ((evL E cs []).1, if (evL E cs []).1 = 0 then (evL E cs []).2.headD 0 else 0)
/-- a cell of the class holds codes -/
def caR (S : zzS) (M : zzM) (x : Nat) (cs : List (Int32 × Int32)) : Prop := x < S.2.1 ∧ zzk S x = 1 ∧ zzn S x = cs.length ∧ cs.length ≤ 400 ∧ ∀ i q, cs[i]? = some q → ((zzI M x i &&& 127).toUInt32 % 65536).toInt32 = opc q.1 ∧ zzI M x i >>> ((7 : Int32) &&& 31) = q.2
theorem caR.go {S : zzS} {M M1 : zzM} {x : Nat} {cs : List (Int32 × Int32)} (h : caR S M x cs) (hM : ∀ i, i < cs.length → zzI M1 x i = zzI M x i) : caR S M1 x cs := ⟨h.1, h.2.1, h.2.2.1, h.2.2.2.1, fun i q hq => by
  have hi : i < cs.length := by
    rcases Nat.lt_or_ge i cs.length with h1 | h1
    · exact h1
    · rw [List.getElem?_eq_none h1] at hq; cases hq
  rw [hM i hi]; exact h.2.2.2.2 i q hq⟩
theorem caR.ne {S : zzS} {M : zzM} {x : Nat} {cs : List (Int32 × Int32)} (h : caR S M x cs) (hS : clS S) : x ≠ 16 := fun e => by
  have h1 := h.2.1
  rw [e, ck_16 hS] at h1
  exact absurd h1 (by decide)
theorem caR.frK {S : zzS} {M M1 : zzM} {x : Nat} {cs : List (Int32 × Int32)} (h : caR S M x cs) (hS : clS S) (hf : frK M M1) : caR S M1 x cs := h.go (fun i _ => hf.1 x i (fun q => h.ne hS q.1))
theorem nI_of_0 : (0 : Int32) = nI 0 := nI_0.symm
theorem value_step {S : zzS} {n : Nat} : F_Rk_value_18 S (n + 1) = F_Rk_value_18_b S (F_Rk_value_18 S n) := rfl
theorem c_value_loop {S : zzS} {x o ll : Nat} {E : pxE} : ∀ (suf pre : List (Int32 × Int32)) (n : Nat) (M : zzM) (st : List Int64), suf.length < n → caR S M x (pre ++ suf) → cK S M o ll → cE M o ll = E → zzI M 16 3 = nI st.length → zzI M 16 4 = 0 → stR (zzL M 18) st → wfC suf st.length → st.length ≤ 13 → ∃ M1, F_Rk_value_18 S n M 16 x (nI pre.length) = some (if (evL E suf st).1 = 0 then (evL E suf st).2.headD 0 else 0, M1) ∧ frK M M1 ∧ zzI M1 16 4 = (evL E suf st).1
  | [], pre, n + 1, M, st, hn, hx, hK, hE, ht, hf, hst, hw, h13 => by
    have hle : Int32.ofNat (zzn S x) ≤ nI pre.length := by rw [hx.2.2.1]; exact nI_le (by simp) (by have := hx.2.2.2.1; simp at this; omega)
    cases st with
    | nil => exact absurd hw (by simp [wfC])
    | cons v r =>
      obtain ⟨p1, p2, p3, p4⟩ := pop_facts hst
      have hr : r.length < 13 := by simp at h13; omega
      refine ⟨_, ?_, p1, p2.trans hf⟩
      rw [value_step]
      simp only [F_Rk_value_18_b, plet, pcall, pck, pI_I, pI_L, pI_R, pL_I, pL_L, pL_R, pR_I, pR_L, pR_R, if_pos hle, hf, if_true, c_pop hK.1 hK.2.1 ht hr, hst.1]
      rfl
  | q :: cs, pre, n + 1, M, st, hn, hx, hK, hE, ht, hf, hst, hw, h13 => by
    subst hE
    have hlen : pre.length < (pre ++ q :: cs).length := by simp
    have h400 := hx.2.2.2.1
    have hle : ¬ Int32.ofNat (zzn S x) ≤ nI pre.length := by rw [hx.2.2.1]; exact nI_ge hlen (by omega)
    have hq := hx.2.2.2.2 pre.length q (by simp)
    obtain ⟨M1, r1, r2, r3, r4⟩ := c_reckon hK ht hf hst hw h13
    have hstep : F_Rk_value_18 S (n + 1) M 16 x (nI pre.length) = F_Rk_value_18 S n M1 16 x (nI (pre.length + 1)) := by
      rw [value_step]
      simp only [F_Rk_value_18_b, plet, pcall, pck, pI_I, pI_L, pI_R, pL_I, pL_L, pL_R, pR_I, pR_L, pR_R, if_neg hle, hf, if_true, pix hx.2.2.1 hlen (by omega), pnI (show pre.length < 100000 by omega), hq.1, hq.2, r1, nI_succ]
    rw [hstep]
    by_cases h0 : (evS (cE M o ll) q.1 q.2 st).1 = 0
    · obtain ⟨a1, a2, a3⟩ := r4 h0
      have e : evL (cE M o ll) (q :: cs) st = evL (cE M o ll) cs (evS (cE M o ll) q.1 q.2 st).2 := if_pos h0
      rw [e]
      obtain ⟨M2, b1, b2, b3⟩ := c_value_loop cs (pre ++ [q]) n M1 _ (by simp at hn; omega) (by simpa using hx.frK hK.1 r2) (hK.go r2) (cE.go r2) a1 (r3.trans h0) a2 a3 (evS_len hw h13)
      rw [List.length_append, List.length_singleton] at b1
      exact ⟨M2, b1, r2.tr b2, b3⟩
    · have e : evL (cE M o ll) (q :: cs) st = evS (cE M o ll) q.1 q.2 st := if_neg h0
      rw [e]
      refine ⟨M1, ?_, r2, r3⟩
      have hn0 : ¬ zzI M1 16 4 = 0 := by rw [r3]; exact h0
      cases n with
      | zero => simp at hn
      | succ n =>
        rw [value_step]
        simp only [F_Rk_value_18_b, plet, pcall, pck, pI_I, pI_L, pI_R, pL_I, pL_L, pL_R, pR_I, pR_L, pR_R, if_neg hn0, if_neg h0]
        split <;> rfl
theorem frK_0 (M : zzM) : frK M (zzsI (zzsI M 16 3 0) 16 4 0) := by
  refine ⟨fun b j hb => ?_, fun b j hb => rfl, rfl⟩
  simp only [plet, pcall, pck, pI_I, pI_L, pI_R, pL_I, pL_L, pL_R, pR_I, pR_L, pR_R]
  by_cases h1 : b = 16
  · by_cases h2 : j = 3
    · exact absurd ⟨h1, Or.inl h2⟩ hb
    · by_cases h3 : j = 4
      · exact absurd ⟨h1, Or.inr h3⟩ hb
      · simp [h1, h2, h3]
  · simp [h1]
theorem c_value {S : zzS} {M : zzM} {x o ll : Nat} {cs : List (Int32 × Int32)} (hK : cK S M o ll) (hx : caR S M x cs) (hw : wfC cs 0) : ∃ M1, F_Rk_value S M 16 (some x) = some ((evR (cE M o ll) cs).2, M1) ∧ frK M M1 ∧ zzI M1 16 4 = (evR (cE M o ll) cs).1 := by
  have hf := frK_0 M
  obtain ⟨M1, a1, a2, a3⟩ := c_value_loop (E := cE M o ll) cs [] 2000 _ [] (by have := hx.2.2.2.1; omega) (by simpa using hx.frK hK.1 hf) (hK.go hf) (cE.go hf) (by simp [plet, pcall, pck, pI_I, pI_L, pI_R, pL_I, pL_L, pL_R, pR_I, pR_L, pR_R]; exact nI_of_0) (by simp [plet, pcall, pck, pI_I, pI_L, pI_R, pL_I, pL_L, pL_R, pR_I, pR_L, pR_R]) trivial hw (by simp)
  refine ⟨M1, ?_, hf.tr a2, a3⟩
  simp only [F_Rk_value, plet, pcall, pck, pI_I, pI_L, pI_R, pL_I, pL_L, pL_R, pR_I, pR_L, pR_R, poptp hx.1 hx.2.1]
  exact a1
