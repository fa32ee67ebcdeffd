/-! reading: the text, characters, codes -/
def okc (x : Nat) : Prop := x = 10 ∨ (32 ≤ x ∧ x ≤ 126)
/-- the character at i, 0 behind the end -/
def chT (T : Nat → Nat) (N i : Nat) : Nat := if i < N then T i else 0
theorem chT_le {T : Nat → Nat} {N : Nat} (h : ∀ i, i < N → okc (T i)) (i : Nat) : chT T N i ≤ 126 := by
  unfold chT
  split
  · rename_i hi
    rcases h i hi with h1 | h1 <;> omega
  · omega
theorem chT_lt {T : Nat → Nat} {N i : Nat} (h : chT T N i ≠ 0) : i < N ∧ chT T N i = T i := by
  unfold chT at h ⊢
  split at h
  · rename_i hi; exact ⟨hi, if_pos hi⟩
  · exact absurd rfl h
/-- the reader's text -/
def rcC (S : zzS) (M : zzM) (T : Nat → Nat) (N : Nat) : Prop := clS S ∧ clR M ∧ zzR M 23 0 = some 1 ∧ zzI M 23 1 = nI N ∧ N ≤ 400 ∧ ∀ i, i < N → zzI M 1 i = nI (T i) ∧ okc (T i)
def frE (M M1 : zzM) : Prop := (∀ b j, ¬ (b = 23 ∧ (j = 2 ∨ j = 7)) → b ≠ 26 → zzI M1 b j = zzI M b j) ∧ M1.2 = M.2
theorem frE.rf (M : zzM) : frE M M := ⟨fun _ _ _ _ => rfl, rfl⟩
theorem frE.tr {M M1 M2 : zzM} (h : frE M M1) (g : frE M1 M2) : frE M M2 := ⟨fun b j h1 h2 => (g.1 b j h1 h2).trans (h.1 b j h1 h2), g.2.trans h.2⟩
theorem frE.R {M M1 : zzM} (h : frE M M1) (b j : Nat) : zzR M1 b j = zzR M b j := by unfold zzR; rw [h.2]
theorem rcC.go {S : zzS} {M M1 : zzM} {T : Nat → Nat} {N : Nat} (h : rcC S M T N) (f : frE M M1) : rcC S M1 T N := by
  obtain ⟨h1, h2, h3, h4, h5, h6⟩ := h
  refine ⟨h1, fun q hq => by rw [f.R]; exact h2 q hq, by rw [f.R]; exact h3, by rw [f.1 23 1 (by omega) (by omega)]; exact h4, h5, fun i hi => ⟨by rw [f.1 1 i (by omega) (by omega)]; exact (h6 i hi).1, (h6 i hi).2⟩⟩
theorem frE_h {M : zzM} (v : Int32) : frE M (zzsI M 23 2 v) := ⟨fun b j h1 h2 => by
  rw [pI_I]
  by_cases hb : b = 23
  · rw [if_pos hb, if_neg (by omega)]
  · rw [if_neg hb], rfl⟩
theorem c_peek {S : zzS} {M : zzM} {T : Nat → Nat} {N i : Nat} (h : rcC S M T N) (hh : zzI M 23 2 = nI i) (hi : i ≤ N) : F_Rd_peek S M 23 = some (nI (chT T N i), M) := by
  obtain ⟨h1, h2, h3, h4, h5, h6⟩ := h
  by_cases hlt : i < N
  · have hok : zzokC (nI (T i)) = true := by
      unfold zzokC
      rw [pk_char, pk_tn (by have := (h6 i hlt).2; unfold okc at this; omega), Nat.mod_eq_of_lt (by have := (h6 i hlt).2; unfold okc at this; omega)]
      simp
    simp only [F_Rd_peek, plet, hh, h4, if_neg (nI_ge hlt (by omega)), h3, cr_1 h1, pix (cn_1 h1) (show i < 400 by omega) (by omega), pnI (show i < 100000 by omega), (h6 i hlt).1, hok, pck, chT, if_pos hlt]
  · simp only [F_Rd_peek, plet, hh, h4, if_pos (nI_le (show N ≤ i by omega) (by omega)), chT, if_neg hlt]
    rfl
theorem c_take {S : zzS} {M : zzM} {T : Nat → Nat} {N i v : Nat} (h : rcC S M T N) (hh : zzI M 23 2 = nI i) (hi : i ≤ N) (hv : v < 1000) (hv0 : v ≠ 0) : F_Rd_take S M 23 (nI v) = if chT T N i = v then some (1, zzsI M 23 2 (nI (i + 1))) else some (0, M) := by
  obtain ⟨h1, h2, h3, h4, h5, h6⟩ := h
  by_cases hlt : i < N
  · have hT : T i < 1000 := by have := (h6 i hlt).2; unfold okc at this; omega
    simp only [F_Rd_take, plet, hh, h4, if_neg (nI_ge hlt (by omega)), h3, cr_1 h1, pix (cn_1 h1) (show i < 400 by omega) (by omega), pnI (show i < 100000 by omega), (h6 i hlt).1, peq (show T i < 100000 by omega) (show v < 100000 by omega), chT, if_pos hlt, ← nI_succ]
  · simp only [F_Rd_take, plet, hh, h4, if_pos (nI_le (show N ≤ i by omega) (by omega)), chT, if_neg hlt]
    rw [if_neg (by omega)]
/-- the class's code of one -/
def enc (q : Int32 × Int32) : Int32 := (q.2 <<< ((7 : Int32) &&& 31)) ||| opc q.1
theorem enc_dec {q : Int32 × Int32} {v c : Nat} (hv : v < 10000) (hc : c < 128) (h1 : q.2 = nI v) (h2 : opc q.1 = nI c) : ((enc q &&& 127).toUInt32 % 65536).toInt32 = opc q.1 ∧ enc q >>> ((7 : Int32) &&& 31) = q.2 := by
  have e : enc q = nI (v * 128 + c) := by
    unfold enc
    rw [h1, h2, pk_shlN (n := v) ((7 : Int32) &&& 31) 7 (by decide) (by omega)]
    apply Int32.toBitVec_inj.mp
    rw [Int32.toBitVec_or]
    apply BitVec.eq_of_toNat_eq
    rw [BitVec.toNat_or, pk_tn (by omega), pk_tn (by omega), pk_tn (by omega), Nat.mul_comm v (2 ^ 7)]
    exact (Nat.two_pow_add_eq_or_of_lt (i := 7) (b := c) (by omega) v).symm
  rw [e, h1, h2]
  constructor
  · rw [pk_andN (n := v * 128 + c) (by omega) (m := 127) 7 (by decide), pk_char, pk_tn (by omega)]
    congr 1
    omega
  · rw [pk_shrN (n := v * 128 + c) (by omega) ((7 : Int32) &&& 31) 7 (by decide)]
    congr 1
    omega
/-- the codes that the class has emitted -/
def ceR (M : zzM) (ks : List (Int32 × Int32)) : Prop := zzI M 23 7 = nI ks.length ∧ ∀ k q, ks[k]? = some q → zzI M 26 k = enc q
def okq (q : Int32 × Int32) : Prop := ∃ v c, v < 10000 ∧ c < 128 ∧ q.2 = nI v ∧ opc q.1 = nI c
theorem c_emit {S : zzS} {M : zzM} {ks : List (Int32 × Int32)} {c v : Int32} (hS : clS S) (hC : clR M) (h : ceR M ks) (hk : ks.length < 400) {q : Int32 × Int32} (hq1 : opc q.1 = c) (hq2 : q.2 = v) : ∃ M1, F_Rd_emit S M 23 c v = some (1, M1) ∧ frE M M1 ∧ ceR M1 (ks ++ [q]) ∧ zzI M1 23 2 = zzI M 23 2 := by
  subst hq1; subst hq2
  refine ⟨zzsI (zzsI M 26 ks.length (enc q)) 23 7 (nI (ks.length + 1)), ?_, ⟨fun b j h1 h2 => ?_, rfl⟩, ⟨by simp [plet, pcall, pck, pI_I, pI_L, pI_R, pL_I, pL_L, pL_R, pR_I, pR_L, pR_R], fun k q2 hq => ?_⟩, by simp [plet, pcall, pck, pI_I, pI_L, pI_R, pL_I, pL_L, pL_R, pR_I, pR_L, pR_R]⟩
  · simp only [F_Rd_emit, plet, h.1, cR_23_6 hC, cr_26 hS, cn_26 hS, if_pos (show nI ks.length < Int32.ofNat 400 from nI_lt hk (by omega)), pix (cn_26 hS) hk (by omega), pnI (show ks.length < 100000 by omega), pI_I, if_neg (show ¬ 23 = 26 by decide), ← nI_succ]
    rfl
  · simp only [plet, pcall, pck, pI_I, pI_L, pI_R, pL_I, pL_L, pL_R, pR_I, pR_L, pR_R]
    rw [if_neg h2]
    by_cases hb : b = 23
    · rw [if_pos hb, if_neg (by omega)]
    · rw [if_neg hb]
  · simp only [plet, pcall, pck, pI_I, pI_L, pI_R, pL_I, pL_L, pL_R, pR_I, pR_L, pR_R, if_neg (show ¬ 26 = 23 by decide), if_true]
    by_cases hk2 : k = ks.length
    · subst hk2
      rw [List.getElem?_append_right (Nat.le_refl _)] at hq
      simp at hq
      rw [if_pos rfl, hq]
    · rw [if_neg hk2]
      by_cases hk3 : k < ks.length
      · rw [List.getElem?_append_left hk3] at hq
        exact h.2 k q2 hq
      · rw [List.getElem?_eq_none (by simp; omega)] at hq
        cases hq
/-- the class's reader within an expression: at i, with the codes ks -/
def cX (S : zzS) (M : zzM) (T : Nat → Nat) (N i : Nat) (ks : List (Int32 × Int32)) : Prop := rcC S M T N ∧ zzI M 23 2 = nI i ∧ i ≤ N ∧ ceR M ks ∧ ks.length < i
theorem ceR.h {M : zzM} {ks : List (Int32 × Int32)} (h : ceR M ks) (v : Int32) : ceR (zzsI M 23 2 v) ks := ⟨h.1, h.2⟩
theorem cX.step {S : zzS} {M : zzM} {T : Nat → Nat} {N i : Nat} {ks : List (Int32 × Int32)} (h : cX S M T N i ks) (hi : i < N) : cX S (zzsI M 23 2 (nI (i + 1))) T N (i + 1) ks := ⟨h.1.go (frE_h _), by simp [plet, pcall, pck, pI_I, pI_L, pI_R, pL_I, pL_L, pL_R, pR_I, pR_L, pR_R], by omega, h.2.2.2.1.h _, by have := h.2.2.2.2; omega⟩
theorem cX.emit {S : zzS} {M : zzM} {T : Nat → Nat} {N i : Nat} {ks : List (Int32 × Int32)} {c v : Int32} (h : cX S M T N i ks) (hk : ks.length + 1 < i) {q : Int32 × Int32} (hq1 : opc q.1 = c) (hq2 : q.2 = v) : ∃ M1, F_Rd_emit S M 23 c v = some (1, M1) ∧ frE M M1 ∧ cX S M1 T N i (ks ++ [q]) := by
  obtain ⟨h1, h2, h3, h4, h5⟩ := h
  have := h1.2.2.2.2.1
  obtain ⟨M1, a1, a2, a3, a4⟩ := c_emit h1.1 h1.2.1 h4 (by omega) hq1 hq2
  exact ⟨M1, a1, a2, h1.go a2, a4.trans h2, h3, a3, by simp; omega⟩
/-! the reference's reader within an expression -/
def sgR (f : Nat → Int32) : List Nat → Prop
  | [] => True
  | x :: r => f r.length = nI x ∧ sgR f r
theorem sgR_far {f g : Nat → Int32} : ∀ {st : List Nat}, sgR f st → (∀ i, i < st.length → g i = f i) → sgR g st
  | [], _, _ => trivial
  | x :: r, h, hg => ⟨(hg r.length (by simp)).trans h.1, sgR_far h.2 (fun i hi => hg i (by simp only [List.length_cons]; omega))⟩
/-- text and script of the reference's reader -/
def rcM (M : zzM) (T : Nat → Nat) (N w : Nat) : Prop := mdR M ∧ zzI M 28 15 = nI w ∧ w ≤ 1 ∧ zzI M 28 1 = nI N ∧ N ≤ 400 ∧ ∀ i, i < N → zzI M 29 i = nI (T i) ∧ okc (T i)
/-- what reading an expression leaves alone: codes below q of script w -/
def frX (w q : Nat) (M M1 : zzM) : Prop := (∀ b j, ¬ (b = 28 ∧ (j = 16 ∨ j = 17 ∨ j = 19 ∨ j = 25 ∨ j = 27)) → b ≠ 44 → ¬ ((b = 39 ∨ b = 40) ∧ 1000 * w + q ≤ j ∧ j < 1000 * w + 1000) → zzI M1 b j = zzI M b j) ∧ M1.2 = M.2
theorem frX.rf (w q : Nat) (M : zzM) : frX w q M M := ⟨fun _ _ _ _ _ => rfl, rfl⟩
theorem frX.tr {w q : Nat} {M M1 M2 : zzM} (h : frX w q M M1) (g : frX w q M1 M2) : frX w q M M2 := ⟨fun b j h1 h2 h3 => (g.1 b j h1 h2 h3).trans (h.1 b j h1 h2 h3), g.2.trans h.2⟩
theorem frX.R {w q : Nat} {M M1 : zzM} (h : frX w q M M1) (b j : Nat) : zzR M1 b j = zzR M b j := by unfold zzR; rw [h.2]
theorem rcM.go {M M1 : zzM} {T : Nat → Nat} {N w q : Nat} (h : rcM M T N w) (f : frX w q M M1) : rcM M1 T N w := by
  obtain ⟨h1, h2, h3, h4, h5, h6⟩ := h
  refine ⟨fun k hk => by rw [f.R]; exact h1 k hk, by rw [f.1 28 15 (by omega) (by omega) (by omega)]; exact h2, h3, by rw [f.1 28 1 (by omega) (by omega) (by omega)]; exact h4, h5, fun i hi => ⟨by rw [f.1 29 i (by omega) (by omega) (by omega)]; exact (h6 i hi).1, (h6 i hi).2⟩⟩
theorem frX_s {w q : Nat} {M : zzM} {j : Nat} (v : Int32) (hj : j = 16 ∨ j = 17 ∨ j = 19 ∨ j = 25 ∨ j = 27) : frX w q M (zzsI M 28 j v) := ⟨fun b k h1 h2 h3 => by
  rw [pI_I]
  by_cases hb : b = 28
  · rw [if_pos hb, if_neg (by omega)]
  · rw [if_neg hb], rfl⟩
theorem frX_g {w q : Nat} {M : zzM} {j : Nat} (v : Int32) : frX w q M (zzsI M 44 j v) := ⟨fun b k h1 h2 h3 => by
  rw [pI_I, if_neg h2], rfl⟩
theorem frX_c {w q : Nat} {M : zzM} {b j : Nat} (v : Int32) (hb : b = 39 ∨ b = 40) (hj : 1000 * w + q ≤ j ∧ j < 1000 * w + 1000) : frX w q M (zzsI M b j v) := ⟨fun b2 k h1 h2 h3 => by
  rw [pI_I]
  by_cases he : b2 = b
  · rw [if_pos he, if_neg (fun e => h3 ⟨by omega, by omega⟩)]
  · rw [if_neg he], rfl⟩
def chM (T : Nat → Nat) (N i : Nat) : Int32 := if i < N then nI (T i) else -1
theorem m_peek {M : zzM} {T : Nat → Nat} {N w i : Nat} (h : rcM M T N w) (hh : zzI M 28 16 = nI i) (hi : i < 1000) : F_Md_peek lwSm M 28 = some (chM T N i, M) := by
  obtain ⟨h1, h2, h3, h4, h5, h6⟩ := h
  by_cases hlt : i < N
  · simp only [F_Md_peek, plet, hh, h4, if_neg (nI_ge hlt (by omega)), mR_2 h1, mr_29, pix (S := lwSm) mn_29 (show i < 400 by omega) (by omega), pnI (show i < 100000 by omega), (h6 i hlt).1, chM, if_pos hlt]
  · simp only [F_Md_peek, plet, hh, h4, if_pos (nI_le (show N ≤ i by omega) (by omega)), chM, if_neg hlt]
theorem chM_eq {T : Nat → Nat} {N i v : Nat} (h : ∀ i, i < N → okc (T i)) (hv : v < 1000) (hv0 : v ≠ 0) : chM T N i = nI v ↔ chT T N i = v := by
  unfold chM chT
  by_cases hi : i < N
  · have := h i hi
    unfold okc at this
    rw [if_pos hi, if_pos hi, peq (by omega) (by omega)]
  · rw [if_neg hi, if_neg hi]
    constructor
    · intro e
      have h1 := nI_pos (n := v) (by omega)
      rw [← e] at h1
      exact absurd (by decide) h1
    · intro e; exact absurd e.symm hv0
/-- the reference's reader: at i, codes cs behind q, signs σ (its top first), within d -/
def mX (M : zzM) (T : Nat → Nat) (N w q i : Nat) (cs : List (Int32 × Int32)) (σ : List Nat) (d : Nat) : Prop := rcM M T N w ∧ zzI M 28 16 = nI i ∧ zzI M 28 17 = -1 ∧ zzI M 28 19 = nI (q + cs.length) ∧ (∀ k x, cs[k]? = some x → zzI M 39 (1000 * w + q + k) = x.1 ∧ zzI M 40 (1000 * w + q + k) = x.2) ∧ zzI M 28 25 = nI σ.length ∧ sgR (zzI M 44) σ ∧ zzI M 28 27 = nI d
theorem e1000 {w i : Nat} : (1000 : Int32) * nI w + nI i = nI (1000 * w + i) := by show nI 1000 * nI w + nI i = _; rw [nI_mul, nI_add]
theorem m_code {M : zzM} {T : Nat → Nat} {N w q i d : Nat} {cs : List (Int32 × Int32)} {σ : List Nat} (h : mX M T N w q i cs σ d) (hb : q + cs.length < 1000) (c v : Int32) : ∃ M1, F_Md_code lwSm M 28 c v = some ((), M1) ∧ frX w q M M1 ∧ mX M1 T N w q i (cs ++ [(c, v)]) σ d := by
  obtain ⟨h1, h2, h3, h4, h5, h6, h7, h8⟩ := h
  have hw := h1.2.2.1
  have hx : ∀ a, zzn lwSm a = 2000 → ∀ x : Option (Unit × zzM), zzix lwSm a (nI (1000 * w + (q + cs.length))) x = x := fun a ha x => pix (S := lwSm) ha (by omega) (by omega) x
  have hf : frX w q M (zzsI (zzsI (zzsI M 39 (1000 * w + (q + cs.length)) c) 40 (1000 * w + (q + cs.length)) v) 28 19 (nI (q + cs.length + 1))) := ((frX_c c (by omega) (by omega)).tr (frX_c v (by omega) (by omega))).tr (frX_s _ (by omega))
  refine ⟨_, ?_, hf, h1.go hf, h2, h3, ?_, fun k x hk => ?_, h6, h7, h8⟩
  · simp only [F_Md_code, plet, mR_13 h1.1, mr_39, h1.2.1, h4, e1000, hx 39 mn_39, pnI (show 1000 * w + (q + cs.length) < 100000 by omega), plet, pcall, pck, pI_I, pI_L, pI_R, pL_I, pL_L, pL_R, pR_I, pR_L, pR_R, mR_14 h1.1, mr_40, if_neg (show ¬ 28 = 39 by decide), if_neg (show ¬ 28 = 40 by decide), hx 40 mn_40, ← nI_succ]
  · simp [plet, pcall, pck, pI_I, pI_L, pI_R, pL_I, pL_L, pL_R, pR_I, pR_L, pR_R]; rfl
  · simp only [plet, pcall, pck, pI_I, pI_L, pI_R, pL_I, pL_L, pL_R, pR_I, pR_L, pR_R, if_neg (show ¬ 39 = 28 by decide), if_neg (show ¬ 40 = 28 by decide), if_neg (show ¬ 39 = 40 by decide), if_neg (show ¬ 40 = 39 by decide), if_true]
    by_cases hk2 : k = cs.length
    · subst hk2
      rw [List.getElem?_append_right (Nat.le_refl _)] at hk
      simp at hk
      rw [if_pos (by omega), if_pos (by omega), ← hk]
      exact ⟨rfl, rfl⟩
    · rw [if_neg (by omega), if_neg (by omega)]
      by_cases hk3 : k < cs.length
      · rw [List.getElem?_append_left hk3] at hk
        exact h5 k x hk
      · rw [List.getElem?_eq_none (by simp; omega)] at hk
        cases hk
/-- a sign pushed, popped -/
theorem mX.push {M : zzM} {T : Nat → Nat} {N w q i d : Nat} {cs : List (Int32 × Int32)} {σ : List Nat} (h : mX M T N w q i cs σ d) (u i2 d2 : Nat) : mX (zzsI (zzsI (zzsI (zzsI M 44 σ.length (nI u)) 28 25 (nI (σ.length + 1))) 28 27 (nI d2)) 28 16 (nI i2)) T N w q i2 cs (u :: σ) d2 ∧ frX w q M (zzsI (zzsI (zzsI (zzsI M 44 σ.length (nI u)) 28 25 (nI (σ.length + 1))) 28 27 (nI d2)) 28 16 (nI i2)) := by
  obtain ⟨h1, h2, h3, h4, h5, h6, h7, h8⟩ := h
  have hf : frX w q M (zzsI (zzsI (zzsI (zzsI M 44 σ.length (nI u)) 28 25 (nI (σ.length + 1))) 28 27 (nI d2)) 28 16 (nI i2)) := (((frX_g (nI u)).tr (frX_s _ (by omega))).tr (frX_s _ (by omega))).tr (frX_s _ (by omega))
  refine ⟨⟨h1.go hf, by simp [plet, pcall, pck, pI_I, pI_L, pI_R, pL_I, pL_L, pL_R, pR_I, pR_L, pR_R], by simp [plet, pcall, pck, pI_I, pI_L, pI_R, pL_I, pL_L, pL_R, pR_I, pR_L, pR_R, h3], by simp [plet, pcall, pck, pI_I, pI_L, pI_R, pL_I, pL_L, pL_R, pR_I, pR_L, pR_R, h4], fun k x hk => ?_, by simp [plet, pcall, pck, pI_I, pI_L, pI_R, pL_I, pL_L, pL_R, pR_I, pR_L, pR_R], ⟨by simp [plet, pcall, pck, pI_I, pI_L, pI_R, pL_I, pL_L, pL_R, pR_I, pR_L, pR_R], sgR_far h7 (fun i hi => ?_)⟩, by simp [plet, pcall, pck, pI_I, pI_L, pI_R, pL_I, pL_L, pL_R, pR_I, pR_L, pR_R]⟩, hf⟩
  · simp only [plet, pcall, pck, pI_I, pI_L, pI_R, pL_I, pL_L, pL_R, pR_I, pR_L, pR_R, if_neg (show ¬ 39 = 28 by decide), if_neg (show ¬ 40 = 28 by decide), if_neg (show ¬ 39 = 44 by decide), if_neg (show ¬ 40 = 44 by decide)]
    exact h5 k x hk
  · have : i ≠ σ.length := by omega
    simp [plet, pcall, pck, pI_I, pI_L, pI_R, pL_I, pL_L, pL_R, pR_I, pR_L, pR_R, this]
