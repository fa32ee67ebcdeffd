/-! PURE: memories read and written -/
theorem pI_I (M : zzM) (a k : Nat) (v : Int32) (b j : Nat) : zzI (zzsI M a k v) b j = if b = a then (if j = k then v else zzI M b j) else zzI M b j := rfl
theorem pI_L (M : zzM) (a k : Nat) (v : Int64) (b j : Nat) : zzI (zzsL M a k v) b j = zzI M b j := rfl
theorem pI_R (M : zzM) (a k : Nat) (v : Option Nat) (b j : Nat) : zzI (zzsR M a k v) b j = zzI M b j := rfl
theorem pL_I (M : zzM) (a k : Nat) (v : Int32) (b j : Nat) : zzL (zzsI M a k v) b j = zzL M b j := rfl
theorem pL_L (M : zzM) (a k : Nat) (v : Int64) (b j : Nat) : zzL (zzsL M a k v) b j = if b = a then (if j = k then v else zzL M b j) else zzL M b j := rfl
theorem pL_R (M : zzM) (a k : Nat) (v : Option Nat) (b j : Nat) : zzL (zzsR M a k v) b j = zzL M b j := rfl
theorem pR_I (M : zzM) (a k : Nat) (v : Int32) (b j : Nat) : zzR (zzsI M a k v) b j = zzR M b j := rfl
theorem pR_L (M : zzM) (a k : Nat) (v : Int64) (b j : Nat) : zzR (zzsL M a k v) b j = zzR M b j := rfl
theorem pR_R (M : zzM) (a k : Nat) (v : Option Nat) (b j : Nat) : zzR (zzsR M a k v) b j = if b = a then (if j = k then v else zzR M b j) else zzR M b j := rfl
theorem pcall {α β : Type} (r : α) (M : zzM) (K : α → zzM → Option β) : zzcall (some (r, M)) K = K r M := rfl
theorem pck {β : Type} (x : Option β) : zzck true x = x := rfl
theorem plet {α β : Type} (x : α) (K : α → β) : zzlet x K = K x := rfl
theorem prefp {β : Type} {S : zzS} {t b : Nat} (h1 : b < S.2.1) (h2 : zzk S b = t) (K : Nat → Option β) : zzref S t (some b) K = K b := if_pos ⟨h1, h2⟩
theorem poptp {β : Type} {S : zzS} {t b : Nat} (h1 : b < S.2.1) (h2 : zzk S b = t) (x : Option β) (K : Nat → Option β) : zzopt S t (some b) x K = K b := if_pos ⟨h1, h2⟩
theorem poptn {β : Type} {S : zzS} {t : Nat} (x : Option β) (K : Nat → Option β) : zzopt S t none x K = x := rfl
theorem pix {β : Type} {S : zzS} {b k n : Nat} (hn : zzn S b = n) (hk : k < n) (hb : n ≤ 100000) (x : Option β) : zzix S b (nI k) x = x := by
  unfold zzix
  rw [hn]
  exact if_neg (nI_in hk (by omega))
theorem pnI {n : Nat} (h : n < 100000) : (nI n).toNatClampNeg = n := nI_clamp (by omega)
theorem plt {a b : Nat} (ha : a < 100000) (hb : b < 100000) : (nI a < nI b) ↔ a < b := by
  constructor
  · intro h
    refine Nat.lt_of_not_le fun h1 => ?_
    exact nI_nlt h1 (by omega) h
  · exact fun h => nI_lt h (by omega)
theorem ple {a b : Nat} (ha : a < 100000) (hb : b < 100000) : (nI a ≤ nI b) ↔ a ≤ b := by
  constructor
  · intro h
    refine Nat.le_of_not_lt fun h1 => ?_
    exact nI_ge h1 (by omega) h
  · exact fun h => nI_le h (by omega)
theorem peq {a b : Nat} (ha : a < 100000) (hb : b < 100000) : (nI a = nI b) ↔ a = b := by
  constructor
  · intro h
    have h1 := congrArg Int32.toNatClampNeg h
    rw [pnI ha, pnI hb] at h1
    exact h1
  · exact fun h => by rw [h]
theorem psub {a b : Nat} (h : b ≤ a) : nI a - nI b = nI (a - b) := by
  have h1 : nI (a - b) + nI b = nI a := by rw [nI_add]; congr 1; omega
  rw [← h1, Int32.add_sub_cancel]
theorem pcmp3 (x y : Int64) : (x < y ∧ ¬ y < x ∧ ¬ x = y ∧ lg_cmp x y = -1) ∨ (¬ x < y ∧ ¬ y < x ∧ x = y ∧ lg_cmp x y = 0) ∨ (¬ x < y ∧ y < x ∧ ¬ x = y ∧ lg_cmp x y = 1) := by
  have e1 := @Int64.lt_iff_toInt_lt x y
  have e2 := @Int64.lt_iff_toInt_lt y x
  have e3 := @Int64.toInt_inj x y
  unfold lg_cmp
  by_cases h1 : y < x
  · exact Or.inr (Or.inr ⟨fun h => by rw [e1] at h; rw [e2] at h1; omega, h1, fun h => by rw [← e3] at h; rw [e2] at h1; omega, if_pos h1⟩)
  · by_cases h2 : x = y
    · exact Or.inr (Or.inl ⟨fun h => by rw [e1] at h; rw [← e3] at h2; omega, h1, h2, by rw [if_neg (show ¬ x > y from h1), if_pos h2]⟩)
    · exact Or.inl ⟨e1.mpr (by rw [e2] at h1; rw [← e3] at h2; omega), h1, h2, by rw [if_neg (show ¬ x > y from h1), if_neg h2]⟩
theorem pcmp_lt (x y : Int64) : lg_cmp x y < 0 ↔ x < y := by
  rcases pcmp3 x y with ⟨h1, h2, h3, h4⟩ | ⟨h1, h2, h3, h4⟩ | ⟨h1, h2, h3, h4⟩ <;> rw [h4] <;> simp only [h1, iff_true, iff_false] <;> decide
theorem pcmp_eq (x y : Int64) : lg_cmp x y = 0 ↔ x = y := by
  rcases pcmp3 x y with ⟨h1, h2, h3, h4⟩ | ⟨h1, h2, h3, h4⟩ | ⟨h1, h2, h3, h4⟩ <;> rw [h4] <;> simp only [h3, iff_true, iff_false] <;> decide
theorem pcmp_ge (x y : Int64) : 0 ≤ lg_cmp x y ↔ ¬ x < y := by
  rcases pcmp3 x y with ⟨h1, h2, h3, h4⟩ | ⟨h1, h2, h3, h4⟩ | ⟨h1, h2, h3, h4⟩ <;> rw [h4] <;> simp only [h1, iff_true, iff_false, not_true, not_false_iff] <;> decide
theorem pcmp_le (x y : Int64) : lg_cmp x y ≤ 0 ↔ ¬ y < x := by
  rcases pcmp3 x y with ⟨h1, h2, h3, h4⟩ | ⟨h1, h2, h3, h4⟩ | ⟨h1, h2, h3, h4⟩ <;> rw [h4] <;> simp only [h2, iff_true, iff_false, not_true, not_false_iff] <;> decide
/-! the reference's references -/
def lwrf : List (Option Nat) := [none, none, some 29, none, some 30, some 31, some 32, some 33, some 34, some 35, some 36, some 37, some 38, some 39, some 40, none, none, none, none, none, none, none, some 41, some 42, some 43, none, some 44, none, none, some 45, none, some 46, none, some 47, none, none, none, some 48, none, some 49, none, some 50, none, some 51, none, none, none, none, none, none, none, none, none, none, some 52, none, some 53, some 54, some 55, some 56, some 57, some 58, some 59, some 60, some 61, none, none]
def mdR (M : zzM) : Prop := ∀ k : Nat, k < 67 → zzR M 28 k = lwrf.getD k none
theorem mR_2 {M : zzM} (h : mdR M) : zzR M 28 2 = some 29 := h 2 (by decide)
theorem mR_4 {M : zzM} (h : mdR M) : zzR M 28 4 = some 30 := h 4 (by decide)
theorem mR_5 {M : zzM} (h : mdR M) : zzR M 28 5 = some 31 := h 5 (by decide)
theorem mR_6 {M : zzM} (h : mdR M) : zzR M 28 6 = some 32 := h 6 (by decide)
theorem mR_7 {M : zzM} (h : mdR M) : zzR M 28 7 = some 33 := h 7 (by decide)
theorem mR_8 {M : zzM} (h : mdR M) : zzR M 28 8 = some 34 := h 8 (by decide)
theorem mR_9 {M : zzM} (h : mdR M) : zzR M 28 9 = some 35 := h 9 (by decide)
theorem mR_10 {M : zzM} (h : mdR M) : zzR M 28 10 = some 36 := h 10 (by decide)
theorem mR_11 {M : zzM} (h : mdR M) : zzR M 28 11 = some 37 := h 11 (by decide)
theorem mR_12 {M : zzM} (h : mdR M) : zzR M 28 12 = some 38 := h 12 (by decide)
theorem mR_13 {M : zzM} (h : mdR M) : zzR M 28 13 = some 39 := h 13 (by decide)
theorem mR_14 {M : zzM} (h : mdR M) : zzR M 28 14 = some 40 := h 14 (by decide)
theorem mR_22 {M : zzM} (h : mdR M) : zzR M 28 22 = some 41 := h 22 (by decide)
theorem mR_23 {M : zzM} (h : mdR M) : zzR M 28 23 = some 42 := h 23 (by decide)
theorem mR_24 {M : zzM} (h : mdR M) : zzR M 28 24 = some 43 := h 24 (by decide)
theorem mR_26 {M : zzM} (h : mdR M) : zzR M 28 26 = some 44 := h 26 (by decide)
theorem mR_29 {M : zzM} (h : mdR M) : zzR M 28 29 = some 45 := h 29 (by decide)
theorem mR_31 {M : zzM} (h : mdR M) : zzR M 28 31 = some 46 := h 31 (by decide)
theorem mR_33 {M : zzM} (h : mdR M) : zzR M 28 33 = some 47 := h 33 (by decide)
theorem mR_37 {M : zzM} (h : mdR M) : zzR M 28 37 = some 48 := h 37 (by decide)
theorem mR_39 {M : zzM} (h : mdR M) : zzR M 28 39 = some 49 := h 39 (by decide)
theorem mR_41 {M : zzM} (h : mdR M) : zzR M 28 41 = some 50 := h 41 (by decide)
theorem mR_43 {M : zzM} (h : mdR M) : zzR M 28 43 = some 51 := h 43 (by decide)
theorem mR_54 {M : zzM} (h : mdR M) : zzR M 28 54 = some 52 := h 54 (by decide)
theorem mR_56 {M : zzM} (h : mdR M) : zzR M 28 56 = some 53 := h 56 (by decide)
theorem mR_57 {M : zzM} (h : mdR M) : zzR M 28 57 = some 54 := h 57 (by decide)
theorem mR_58 {M : zzM} (h : mdR M) : zzR M 28 58 = some 55 := h 58 (by decide)
theorem mR_59 {M : zzM} (h : mdR M) : zzR M 28 59 = some 56 := h 59 (by decide)
theorem mR_60 {M : zzM} (h : mdR M) : zzR M 28 60 = some 57 := h 60 (by decide)
theorem mR_61 {M : zzM} (h : mdR M) : zzR M 28 61 = some 58 := h 61 (by decide)
theorem mR_62 {M : zzM} (h : mdR M) : zzR M 28 62 = some 59 := h 62 (by decide)
theorem mR_63 {M : zzM} (h : mdR M) : zzR M 28 63 = some 60 := h 63 (by decide)
theorem mR_64 {M : zzM} (h : mdR M) : zzR M 28 64 = some 61 := h 64 (by decide)
theorem mr_29 {β : Type} (K : Nat → Option β) : zzref lwSm 1 (some 29) K = K 29 := prefp (by decide) (by decide) K
theorem mn_29 : zzn lwSm 29 = 400 := by decide
theorem mr_30 {β : Type} (K : Nat → Option β) : zzref lwSm 1 (some 30) K = K 30 := prefp (by decide) (by decide) K
theorem mn_30 : zzn lwSm 30 = 2 := by decide
theorem mr_31 {β : Type} (K : Nat → Option β) : zzref lwSm 1 (some 31) K = K 31 := prefp (by decide) (by decide) K
theorem mn_31 : zzn lwSm 31 = 800 := by decide
theorem mr_32 {β : Type} (K : Nat → Option β) : zzref lwSm 1 (some 32) K = K 32 := prefp (by decide) (by decide) K
theorem mn_32 : zzn lwSm 32 = 1200 := by decide
theorem mr_33 {β : Type} (K : Nat → Option β) : zzref lwSm 1 (some 33) K = K 33 := prefp (by decide) (by decide) K
theorem mn_33 : zzn lwSm 33 = 1200 := by decide
theorem mr_34 {β : Type} (K : Nat → Option β) : zzref lwSm 1 (some 34) K = K 34 := prefp (by decide) (by decide) K
theorem mn_34 : zzn lwSm 34 = 1200 := by decide
theorem mr_35 {β : Type} (K : Nat → Option β) : zzref lwSm 1 (some 35) K = K 35 := prefp (by decide) (by decide) K
theorem mn_35 : zzn lwSm 35 = 1200 := by decide
theorem mr_36 {β : Type} (K : Nat → Option β) : zzref lwSm 1 (some 36) K = K 36 := prefp (by decide) (by decide) K
theorem mn_36 : zzn lwSm 36 = 1200 := by decide
theorem mr_37 {β : Type} (K : Nat → Option β) : zzref lwSm 1 (some 37) K = K 37 := prefp (by decide) (by decide) K
theorem mn_37 : zzn lwSm 37 = 1200 := by decide
theorem mr_38 {β : Type} (K : Nat → Option β) : zzref lwSm 1 (some 38) K = K 38 := prefp (by decide) (by decide) K
theorem mn_38 : zzn lwSm 38 = 52 := by decide
theorem mr_39 {β : Type} (K : Nat → Option β) : zzref lwSm 1 (some 39) K = K 39 := prefp (by decide) (by decide) K
theorem mn_39 : zzn lwSm 39 = 2000 := by decide
theorem mr_40 {β : Type} (K : Nat → Option β) : zzref lwSm 1 (some 40) K = K 40 := prefp (by decide) (by decide) K
theorem mn_40 : zzn lwSm 40 = 2000 := by decide
theorem mr_41 {β : Type} (K : Nat → Option β) : zzref lwSm 1 (some 41) K = K 41 := prefp (by decide) (by decide) K
theorem mn_41 : zzn lwSm 41 = 4 := by decide
theorem mr_42 {β : Type} (K : Nat → Option β) : zzref lwSm 1 (some 42) K = K 42 := prefp (by decide) (by decide) K
theorem mn_42 : zzn lwSm 42 = 4 := by decide
theorem mr_43 {β : Type} (K : Nat → Option β) : zzref lwSm 1 (some 43) K = K 43 := prefp (by decide) (by decide) K
theorem mn_43 : zzn lwSm 43 = 4 := by decide
theorem mr_44 {β : Type} (K : Nat → Option β) : zzref lwSm 1 (some 44) K = K 44 := prefp (by decide) (by decide) K
theorem mn_44 : zzn lwSm 44 = 64 := by decide
theorem mr_45 {β : Type} (K : Nat → Option β) : zzref lwSm 2 (some 45) K = K 45 := prefp (by decide) (by decide) K
theorem mn_45 : zzn lwSm 45 = 72 := by decide
theorem mr_46 {β : Type} (K : Nat → Option β) : zzref lwSm 2 (some 46) K = K 46 := prefp (by decide) (by decide) K
theorem mn_46 : zzn lwSm 46 = 20 := by decide
theorem mr_47 {β : Type} (K : Nat → Option β) : zzref lwSm 2 (some 47) K = K 47 := prefp (by decide) (by decide) K
theorem mn_47 : zzn lwSm 47 = 26 := by decide
theorem mr_48 {β : Type} (K : Nat → Option β) : zzref lwSm 1 (some 48) K = K 48 := prefp (by decide) (by decide) K
theorem mn_48 : zzn lwSm 48 = 40 := by decide
theorem mr_49 {β : Type} (K : Nat → Option β) : zzref lwSm 1 (some 49) K = K 49 := prefp (by decide) (by decide) K
theorem mn_49 : zzn lwSm 49 = 8 := by decide
theorem mr_50 {β : Type} (K : Nat → Option β) : zzref lwSm 1 (some 50) K = K 50 := prefp (by decide) (by decide) K
theorem mn_50 : zzn lwSm 50 = 12 := by decide
theorem mr_51 {β : Type} (K : Nat → Option β) : zzref lwSm 1 (some 51) K = K 51 := prefp (by decide) (by decide) K
theorem mn_51 : zzn lwSm 51 = 20 := by decide
theorem mr_52 {β : Type} (K : Nat → Option β) : zzref lwSm 1 (some 52) K = K 52 := prefp (by decide) (by decide) K
theorem mn_52 : zzn lwSm 52 = 2 := by decide
theorem mr_53 {β : Type} (K : Nat → Option β) : zzref lwSm 1 (some 53) K = K 53 := prefp (by decide) (by decide) K
theorem mn_53 : zzn lwSm 53 = 16 := by decide
theorem mr_54 {β : Type} (K : Nat → Option β) : zzref lwSm 1 (some 54) K = K 54 := prefp (by decide) (by decide) K
theorem mn_54 : zzn lwSm 54 = 16 := by decide
theorem mr_55 {β : Type} (K : Nat → Option β) : zzref lwSm 1 (some 55) K = K 55 := prefp (by decide) (by decide) K
theorem mn_55 : zzn lwSm 55 = 16 := by decide
theorem mr_56 {β : Type} (K : Nat → Option β) : zzref lwSm 1 (some 56) K = K 56 := prefp (by decide) (by decide) K
theorem mn_56 : zzn lwSm 56 = 16 := by decide
theorem mr_57 {β : Type} (K : Nat → Option β) : zzref lwSm 1 (some 57) K = K 57 := prefp (by decide) (by decide) K
theorem mn_57 : zzn lwSm 57 = 16 := by decide
theorem mr_58 {β : Type} (K : Nat → Option β) : zzref lwSm 1 (some 58) K = K 58 := prefp (by decide) (by decide) K
theorem mn_58 : zzn lwSm 58 = 16 := by decide
theorem mr_59 {β : Type} (K : Nat → Option β) : zzref lwSm 2 (some 59) K = K 59 := prefp (by decide) (by decide) K
theorem mn_59 : zzn lwSm 59 = 1152 := by decide
theorem mr_60 {β : Type} (K : Nat → Option β) : zzref lwSm 1 (some 60) K = K 60 := prefp (by decide) (by decide) K
theorem mn_60 : zzn lwSm 60 = 16 := by decide
theorem mr_61 {β : Type} (K : Nat → Option β) : zzref lwSm 2 (some 61) K = K 61 := prefp (by decide) (by decide) K
theorem mn_61 : zzn lwSm 61 = 64 := by decide
theorem mdR_I {M : zzM} {a k : Nat} {v : Int32} (h : mdR M) : mdR (zzsI M a k v) := h
theorem mdR_L {M : zzM} {a k : Nat} {v : Int64} (h : mdR M) : mdR (zzsL M a k v) := h
/-! the class's fixed cells and references -/
def clS (S : zzS) : Prop := (∀ a : Nat, a < 28 → S.1 a = lwkc.getD a (0, 0)) ∧ S.1 62 = (2, 1) ∧ (∀ a : Nat, 28 ≤ a → a < 62 → S.1 a = (0, 0)) ∧ 63 ≤ S.2.1
theorem ck_0 {S : zzS} (h : clS S) : zzk S 0 = 10 := by unfold zzk; rw [h.1 0 (by decide)]; rfl
theorem cl_0 {S : zzS} (h : clS S) : 0 < S.2.1 := by have := h.2.2.2; omega
theorem cr_0 {S : zzS} (h : clS S) {β : Type} (K : Nat → Option β) : zzref S 10 (some 0) K = K 0 := prefp (cl_0 h) (ck_0 h) K
theorem cO_0 {S : zzS} (h : clS S) {β : Type} (x : Option β) (K : Nat → Option β) : zzopt S 10 (some 0) x K = K 0 := poptp (cl_0 h) (ck_0 h) x K
theorem ck_1 {S : zzS} (h : clS S) : zzk S 1 = 3 := by unfold zzk; rw [h.1 1 (by decide)]; rfl
theorem cl_1 {S : zzS} (h : clS S) : 1 < S.2.1 := by have := h.2.2.2; omega
theorem cr_1 {S : zzS} (h : clS S) {β : Type} (K : Nat → Option β) : zzref S 3 (some 1) K = K 1 := prefp (cl_1 h) (ck_1 h) K
theorem cO_1 {S : zzS} (h : clS S) {β : Type} (x : Option β) (K : Nat → Option β) : zzopt S 3 (some 1) x K = K 1 := poptp (cl_1 h) (ck_1 h) x K
theorem cn_1 {S : zzS} (h : clS S) : zzn S 1 = 400 := by unfold zzn; rw [h.1 1 (by decide)]; rfl
theorem ck_2 {S : zzS} (h : clS S) : zzk S 2 = 11 := by unfold zzk; rw [h.1 2 (by decide)]; rfl
theorem cl_2 {S : zzS} (h : clS S) : 2 < S.2.1 := by have := h.2.2.2; omega
theorem cr_2 {S : zzS} (h : clS S) {β : Type} (K : Nat → Option β) : zzref S 11 (some 2) K = K 2 := prefp (cl_2 h) (ck_2 h) K
theorem cO_2 {S : zzS} (h : clS S) {β : Type} (x : Option β) (K : Nat → Option β) : zzopt S 11 (some 2) x K = K 2 := poptp (cl_2 h) (ck_2 h) x K
theorem ck_3 {S : zzS} (h : clS S) : zzk S 3 = 12 := by unfold zzk; rw [h.1 3 (by decide)]; rfl
theorem cl_3 {S : zzS} (h : clS S) : 3 < S.2.1 := by have := h.2.2.2; omega
theorem cr_3 {S : zzS} (h : clS S) {β : Type} (K : Nat → Option β) : zzref S 12 (some 3) K = K 3 := prefp (cl_3 h) (ck_3 h) K
theorem cO_3 {S : zzS} (h : clS S) {β : Type} (x : Option β) (K : Nat → Option β) : zzopt S 12 (some 3) x K = K 3 := poptp (cl_3 h) (ck_3 h) x K
theorem ck_4 {S : zzS} (h : clS S) : zzk S 4 = 4 := by unfold zzk; rw [h.1 4 (by decide)]; rfl
theorem cl_4 {S : zzS} (h : clS S) : 4 < S.2.1 := by have := h.2.2.2; omega
theorem cr_4 {S : zzS} (h : clS S) {β : Type} (K : Nat → Option β) : zzref S 4 (some 4) K = K 4 := prefp (cl_4 h) (ck_4 h) K
theorem cO_4 {S : zzS} (h : clS S) {β : Type} (x : Option β) (K : Nat → Option β) : zzopt S 4 (some 4) x K = K 4 := poptp (cl_4 h) (ck_4 h) x K
theorem cn_4 {S : zzS} (h : clS S) : zzn S 4 = 26 := by unfold zzn; rw [h.1 4 (by decide)]; rfl
theorem ck_5 {S : zzS} (h : clS S) : zzk S 5 = 14 := by unfold zzk; rw [h.1 5 (by decide)]; rfl
theorem cl_5 {S : zzS} (h : clS S) : 5 < S.2.1 := by have := h.2.2.2; omega
theorem cr_5 {S : zzS} (h : clS S) {β : Type} (K : Nat → Option β) : zzref S 14 (some 5) K = K 5 := prefp (cl_5 h) (ck_5 h) K
theorem cO_5 {S : zzS} (h : clS S) {β : Type} (x : Option β) (K : Nat → Option β) : zzopt S 14 (some 5) x K = K 5 := poptp (cl_5 h) (ck_5 h) x K
theorem ck_6 {S : zzS} (h : clS S) : zzk S 6 = 2 := by unfold zzk; rw [h.1 6 (by decide)]; rfl
theorem cl_6 {S : zzS} (h : clS S) : 6 < S.2.1 := by have := h.2.2.2; omega
theorem cr_6 {S : zzS} (h : clS S) {β : Type} (K : Nat → Option β) : zzref S 2 (some 6) K = K 6 := prefp (cl_6 h) (ck_6 h) K
theorem cO_6 {S : zzS} (h : clS S) {β : Type} (x : Option β) (K : Nat → Option β) : zzopt S 2 (some 6) x K = K 6 := poptp (cl_6 h) (ck_6 h) x K
theorem cn_6 {S : zzS} (h : clS S) : zzn S 6 = 72 := by unfold zzn; rw [h.1 6 (by decide)]; rfl
theorem ck_7 {S : zzS} (h : clS S) : zzk S 7 = 2 := by unfold zzk; rw [h.1 7 (by decide)]; rfl
theorem cl_7 {S : zzS} (h : clS S) : 7 < S.2.1 := by have := h.2.2.2; omega
theorem cr_7 {S : zzS} (h : clS S) {β : Type} (K : Nat → Option β) : zzref S 2 (some 7) K = K 7 := prefp (cl_7 h) (ck_7 h) K
theorem cO_7 {S : zzS} (h : clS S) {β : Type} (x : Option β) (K : Nat → Option β) : zzopt S 2 (some 7) x K = K 7 := poptp (cl_7 h) (ck_7 h) x K
theorem cn_7 {S : zzS} (h : clS S) : zzn S 7 = 20 := by unfold zzn; rw [h.1 7 (by decide)]; rfl
theorem ck_8 {S : zzS} (h : clS S) : zzk S 8 = 5 := by unfold zzk; rw [h.1 8 (by decide)]; rfl
theorem cl_8 {S : zzS} (h : clS S) : 8 < S.2.1 := by have := h.2.2.2; omega
theorem cr_8 {S : zzS} (h : clS S) {β : Type} (K : Nat → Option β) : zzref S 5 (some 8) K = K 8 := prefp (cl_8 h) (ck_8 h) K
theorem cO_8 {S : zzS} (h : clS S) {β : Type} (x : Option β) (K : Nat → Option β) : zzopt S 5 (some 8) x K = K 8 := poptp (cl_8 h) (ck_8 h) x K
theorem cn_8 {S : zzS} (h : clS S) : zzn S 8 = 6 := by unfold zzn; rw [h.1 8 (by decide)]; rfl
theorem ck_9 {S : zzS} (h : clS S) : zzk S 9 = 2 := by unfold zzk; rw [h.1 9 (by decide)]; rfl
theorem cl_9 {S : zzS} (h : clS S) : 9 < S.2.1 := by have := h.2.2.2; omega
theorem cr_9 {S : zzS} (h : clS S) {β : Type} (K : Nat → Option β) : zzref S 2 (some 9) K = K 9 := prefp (cl_9 h) (ck_9 h) K
theorem cO_9 {S : zzS} (h : clS S) {β : Type} (x : Option β) (K : Nat → Option β) : zzopt S 2 (some 9) x K = K 9 := poptp (cl_9 h) (ck_9 h) x K
theorem cn_9 {S : zzS} (h : clS S) : zzn S 9 = 72 := by unfold zzn; rw [h.1 9 (by decide)]; rfl
theorem ck_10 {S : zzS} (h : clS S) : zzk S 10 = 2 := by unfold zzk; rw [h.1 10 (by decide)]; rfl
theorem cl_10 {S : zzS} (h : clS S) : 10 < S.2.1 := by have := h.2.2.2; omega
theorem cr_10 {S : zzS} (h : clS S) {β : Type} (K : Nat → Option β) : zzref S 2 (some 10) K = K 10 := prefp (cl_10 h) (ck_10 h) K
theorem cO_10 {S : zzS} (h : clS S) {β : Type} (x : Option β) (K : Nat → Option β) : zzopt S 2 (some 10) x K = K 10 := poptp (cl_10 h) (ck_10 h) x K
theorem cn_10 {S : zzS} (h : clS S) : zzn S 10 = 72 := by unfold zzn; rw [h.1 10 (by decide)]; rfl
theorem ck_11 {S : zzS} (h : clS S) : zzk S 11 = 2 := by unfold zzk; rw [h.1 11 (by decide)]; rfl
theorem cl_11 {S : zzS} (h : clS S) : 11 < S.2.1 := by have := h.2.2.2; omega
theorem cr_11 {S : zzS} (h : clS S) {β : Type} (K : Nat → Option β) : zzref S 2 (some 11) K = K 11 := prefp (cl_11 h) (ck_11 h) K
theorem cO_11 {S : zzS} (h : clS S) {β : Type} (x : Option β) (K : Nat → Option β) : zzopt S 2 (some 11) x K = K 11 := poptp (cl_11 h) (ck_11 h) x K
theorem cn_11 {S : zzS} (h : clS S) : zzn S 11 = 72 := by unfold zzn; rw [h.1 11 (by decide)]; rfl
theorem ck_12 {S : zzS} (h : clS S) : zzk S 12 = 2 := by unfold zzk; rw [h.1 12 (by decide)]; rfl
theorem cl_12 {S : zzS} (h : clS S) : 12 < S.2.1 := by have := h.2.2.2; omega
theorem cr_12 {S : zzS} (h : clS S) {β : Type} (K : Nat → Option β) : zzref S 2 (some 12) K = K 12 := prefp (cl_12 h) (ck_12 h) K
theorem cO_12 {S : zzS} (h : clS S) {β : Type} (x : Option β) (K : Nat → Option β) : zzopt S 2 (some 12) x K = K 12 := poptp (cl_12 h) (ck_12 h) x K
theorem cn_12 {S : zzS} (h : clS S) : zzn S 12 = 72 := by unfold zzn; rw [h.1 12 (by decide)]; rfl
theorem ck_13 {S : zzS} (h : clS S) : zzk S 13 = 2 := by unfold zzk; rw [h.1 13 (by decide)]; rfl
theorem cl_13 {S : zzS} (h : clS S) : 13 < S.2.1 := by have := h.2.2.2; omega
theorem cr_13 {S : zzS} (h : clS S) {β : Type} (K : Nat → Option β) : zzref S 2 (some 13) K = K 13 := prefp (cl_13 h) (ck_13 h) K
theorem cO_13 {S : zzS} (h : clS S) {β : Type} (x : Option β) (K : Nat → Option β) : zzopt S 2 (some 13) x K = K 13 := poptp (cl_13 h) (ck_13 h) x K
theorem cn_13 {S : zzS} (h : clS S) : zzn S 13 = 72 := by unfold zzn; rw [h.1 13 (by decide)]; rfl
theorem ck_14 {S : zzS} (h : clS S) : zzk S 14 = 2 := by unfold zzk; rw [h.1 14 (by decide)]; rfl
theorem cl_14 {S : zzS} (h : clS S) : 14 < S.2.1 := by have := h.2.2.2; omega
theorem cr_14 {S : zzS} (h : clS S) {β : Type} (K : Nat → Option β) : zzref S 2 (some 14) K = K 14 := prefp (cl_14 h) (ck_14 h) K
theorem cO_14 {S : zzS} (h : clS S) {β : Type} (x : Option β) (K : Nat → Option β) : zzopt S 2 (some 14) x K = K 14 := poptp (cl_14 h) (ck_14 h) x K
theorem cn_14 {S : zzS} (h : clS S) : zzn S 14 = 72 := by unfold zzn; rw [h.1 14 (by decide)]; rfl
theorem ck_15 {S : zzS} (h : clS S) : zzk S 15 = 1 := by unfold zzk; rw [h.1 15 (by decide)]; rfl
theorem cl_15 {S : zzS} (h : clS S) : 15 < S.2.1 := by have := h.2.2.2; omega
theorem cr_15 {S : zzS} (h : clS S) {β : Type} (K : Nat → Option β) : zzref S 1 (some 15) K = K 15 := prefp (cl_15 h) (ck_15 h) K
theorem cO_15 {S : zzS} (h : clS S) {β : Type} (x : Option β) (K : Nat → Option β) : zzopt S 1 (some 15) x K = K 15 := poptp (cl_15 h) (ck_15 h) x K
theorem cn_15 {S : zzS} (h : clS S) : zzn S 15 = 6 := by unfold zzn; rw [h.1 15 (by decide)]; rfl
theorem ck_16 {S : zzS} (h : clS S) : zzk S 16 = 15 := by unfold zzk; rw [h.1 16 (by decide)]; rfl
theorem cl_16 {S : zzS} (h : clS S) : 16 < S.2.1 := by have := h.2.2.2; omega
theorem cr_16 {S : zzS} (h : clS S) {β : Type} (K : Nat → Option β) : zzref S 15 (some 16) K = K 16 := prefp (cl_16 h) (ck_16 h) K
theorem cO_16 {S : zzS} (h : clS S) {β : Type} (x : Option β) (K : Nat → Option β) : zzopt S 15 (some 16) x K = K 16 := poptp (cl_16 h) (ck_16 h) x K
theorem ck_17 {S : zzS} (h : clS S) : zzk S 17 = 2 := by unfold zzk; rw [h.1 17 (by decide)]; rfl
theorem cl_17 {S : zzS} (h : clS S) : 17 < S.2.1 := by have := h.2.2.2; omega
theorem cr_17 {S : zzS} (h : clS S) {β : Type} (K : Nat → Option β) : zzref S 2 (some 17) K = K 17 := prefp (cl_17 h) (ck_17 h) K
theorem cO_17 {S : zzS} (h : clS S) {β : Type} (x : Option β) (K : Nat → Option β) : zzopt S 2 (some 17) x K = K 17 := poptp (cl_17 h) (ck_17 h) x K
theorem cn_17 {S : zzS} (h : clS S) : zzn S 17 = 26 := by unfold zzn; rw [h.1 17 (by decide)]; rfl
theorem ck_18 {S : zzS} (h : clS S) : zzk S 18 = 2 := by unfold zzk; rw [h.1 18 (by decide)]; rfl
theorem cl_18 {S : zzS} (h : clS S) : 18 < S.2.1 := by have := h.2.2.2; omega
theorem cr_18 {S : zzS} (h : clS S) {β : Type} (K : Nat → Option β) : zzref S 2 (some 18) K = K 18 := prefp (cl_18 h) (ck_18 h) K
theorem cO_18 {S : zzS} (h : clS S) {β : Type} (x : Option β) (K : Nat → Option β) : zzopt S 2 (some 18) x K = K 18 := poptp (cl_18 h) (ck_18 h) x K
theorem cn_18 {S : zzS} (h : clS S) : zzn S 18 = 13 := by unfold zzn; rw [h.1 18 (by decide)]; rfl
theorem ck_19 {S : zzS} (h : clS S) : zzk S 19 = 16 := by unfold zzk; rw [h.1 19 (by decide)]; rfl
theorem cl_19 {S : zzS} (h : clS S) : 19 < S.2.1 := by have := h.2.2.2; omega
theorem cr_19 {S : zzS} (h : clS S) {β : Type} (K : Nat → Option β) : zzref S 16 (some 19) K = K 19 := prefp (cl_19 h) (ck_19 h) K
theorem cO_19 {S : zzS} (h : clS S) {β : Type} (x : Option β) (K : Nat → Option β) : zzopt S 16 (some 19) x K = K 19 := poptp (cl_19 h) (ck_19 h) x K
theorem ck_20 {S : zzS} (h : clS S) : zzk S 20 = 1 := by unfold zzk; rw [h.1 20 (by decide)]; rfl
theorem cl_20 {S : zzS} (h : clS S) : 20 < S.2.1 := by have := h.2.2.2; omega
theorem cr_20 {S : zzS} (h : clS S) {β : Type} (K : Nat → Option β) : zzref S 1 (some 20) K = K 20 := prefp (cl_20 h) (ck_20 h) K
theorem cO_20 {S : zzS} (h : clS S) {β : Type} (x : Option β) (K : Nat → Option β) : zzopt S 1 (some 20) x K = K 20 := poptp (cl_20 h) (ck_20 h) x K
theorem cn_20 {S : zzS} (h : clS S) : zzn S 20 = 40 := by unfold zzn; rw [h.1 20 (by decide)]; rfl
theorem ck_21 {S : zzS} (h : clS S) : zzk S 21 = 4 := by unfold zzk; rw [h.1 21 (by decide)]; rfl
theorem cl_21 {S : zzS} (h : clS S) : 21 < S.2.1 := by have := h.2.2.2; omega
theorem cr_21 {S : zzS} (h : clS S) {β : Type} (K : Nat → Option β) : zzref S 4 (some 21) K = K 21 := prefp (cl_21 h) (ck_21 h) K
theorem cO_21 {S : zzS} (h : clS S) {β : Type} (x : Option β) (K : Nat → Option β) : zzopt S 4 (some 21) x K = K 21 := poptp (cl_21 h) (ck_21 h) x K
theorem cn_21 {S : zzS} (h : clS S) : zzn S 21 = 8 := by unfold zzn; rw [h.1 21 (by decide)]; rfl
theorem ck_22 {S : zzS} (h : clS S) : zzk S 22 = 1 := by unfold zzk; rw [h.1 22 (by decide)]; rfl
theorem cl_22 {S : zzS} (h : clS S) : 22 < S.2.1 := by have := h.2.2.2; omega
theorem cr_22 {S : zzS} (h : clS S) {β : Type} (K : Nat → Option β) : zzref S 1 (some 22) K = K 22 := prefp (cl_22 h) (ck_22 h) K
theorem cO_22 {S : zzS} (h : clS S) {β : Type} (x : Option β) (K : Nat → Option β) : zzopt S 1 (some 22) x K = K 22 := poptp (cl_22 h) (ck_22 h) x K
theorem cn_22 {S : zzS} (h : clS S) : zzn S 22 = 20 := by unfold zzn; rw [h.1 22 (by decide)]; rfl
theorem ck_23 {S : zzS} (h : clS S) : zzk S 23 = 17 := by unfold zzk; rw [h.1 23 (by decide)]; rfl
theorem cl_23 {S : zzS} (h : clS S) : 23 < S.2.1 := by have := h.2.2.2; omega
theorem cr_23 {S : zzS} (h : clS S) {β : Type} (K : Nat → Option β) : zzref S 17 (some 23) K = K 23 := prefp (cl_23 h) (ck_23 h) K
theorem cO_23 {S : zzS} (h : clS S) {β : Type} (x : Option β) (K : Nat → Option β) : zzopt S 17 (some 23) x K = K 23 := poptp (cl_23 h) (ck_23 h) x K
theorem ck_24 {S : zzS} (h : clS S) : zzk S 24 = 3 := by unfold zzk; rw [h.1 24 (by decide)]; rfl
theorem cl_24 {S : zzS} (h : clS S) : 24 < S.2.1 := by have := h.2.2.2; omega
theorem cr_24 {S : zzS} (h : clS S) {β : Type} (K : Nat → Option β) : zzref S 3 (some 24) K = K 24 := prefp (cl_24 h) (ck_24 h) K
theorem cO_24 {S : zzS} (h : clS S) {β : Type} (x : Option β) (K : Nat → Option β) : zzopt S 3 (some 24) x K = K 24 := poptp (cl_24 h) (ck_24 h) x K
theorem cn_24 {S : zzS} (h : clS S) : zzn S 24 = 0 := by unfold zzn; rw [h.1 24 (by decide)]; rfl
theorem ck_25 {S : zzS} (h : clS S) : zzk S 25 = 4 := by unfold zzk; rw [h.1 25 (by decide)]; rfl
theorem cl_25 {S : zzS} (h : clS S) : 25 < S.2.1 := by have := h.2.2.2; omega
theorem cr_25 {S : zzS} (h : clS S) {β : Type} (K : Nat → Option β) : zzref S 4 (some 25) K = K 25 := prefp (cl_25 h) (ck_25 h) K
theorem cO_25 {S : zzS} (h : clS S) {β : Type} (x : Option β) (K : Nat → Option β) : zzopt S 4 (some 25) x K = K 25 := poptp (cl_25 h) (ck_25 h) x K
theorem cn_25 {S : zzS} (h : clS S) : zzn S 25 = 0 := by unfold zzn; rw [h.1 25 (by decide)]; rfl
theorem ck_26 {S : zzS} (h : clS S) : zzk S 26 = 1 := by unfold zzk; rw [h.1 26 (by decide)]; rfl
theorem cl_26 {S : zzS} (h : clS S) : 26 < S.2.1 := by have := h.2.2.2; omega
theorem cr_26 {S : zzS} (h : clS S) {β : Type} (K : Nat → Option β) : zzref S 1 (some 26) K = K 26 := prefp (cl_26 h) (ck_26 h) K
theorem cO_26 {S : zzS} (h : clS S) {β : Type} (x : Option β) (K : Nat → Option β) : zzopt S 1 (some 26) x K = K 26 := poptp (cl_26 h) (ck_26 h) x K
theorem cn_26 {S : zzS} (h : clS S) : zzn S 26 = 400 := by unfold zzn; rw [h.1 26 (by decide)]; rfl
theorem ck_27 {S : zzS} (h : clS S) : zzk S 27 = 18 := by unfold zzk; rw [h.1 27 (by decide)]; rfl
theorem cl_27 {S : zzS} (h : clS S) : 27 < S.2.1 := by have := h.2.2.2; omega
theorem cr_27 {S : zzS} (h : clS S) {β : Type} (K : Nat → Option β) : zzref S 18 (some 27) K = K 27 := prefp (cl_27 h) (ck_27 h) K
theorem cO_27 {S : zzS} (h : clS S) {β : Type} (x : Option β) (K : Nat → Option β) : zzopt S 18 (some 27) x K = K 27 := poptp (cl_27 h) (ck_27 h) x K
def lwrc : List (Nat × Nat × Option Nat) := [(0, 0, some 1), (0, 3, some 2), (0, 5, some 5), (0, 6, some 16), (0, 7, some 19), (0, 8, some 23), (0, 9, some 27), (2, 0, some 3), (2, 1, some 4), (3, 0, none), (3, 1, none), (5, 0, some 6), (5, 2, some 7), (5, 4, some 8), (5, 5, some 15), (8, 0, some 9), (8, 1, some 10), (8, 2, some 11), (8, 3, some 12), (8, 4, some 13), (8, 5, some 14), (16, 0, some 5), (16, 1, some 17), (16, 2, some 18), (19, 0, some 20), (19, 2, some 21), (19, 4, some 22), (23, 6, some 26), (27, 0, some 5), (27, 1, some 16), (27, 2, some 19), (4, 0, none), (4, 1, none), (4, 2, none), (4, 3, none), (4, 4, none), (4, 5, none), (4, 6, none), (4, 7, none), (4, 8, none), (4, 9, none), (4, 10, none), (4, 11, none), (4, 12, none), (4, 13, none), (4, 14, none), (4, 15, none), (4, 16, none), (4, 17, none), (4, 18, none), (4, 19, none), (4, 20, none), (4, 21, none), (4, 22, none), (4, 23, none), (4, 24, none), (4, 25, none)]
def clR (M : zzM) : Prop := ∀ q ∈ lwrc, zzR M q.1 q.2.1 = q.2.2
theorem cR_0_0 {M : zzM} (h : clR M) : zzR M 0 0 = some 1 := h (0, 0, some 1) (by decide)
theorem cR_0_3 {M : zzM} (h : clR M) : zzR M 0 3 = some 2 := h (0, 3, some 2) (by decide)
theorem cR_0_5 {M : zzM} (h : clR M) : zzR M 0 5 = some 5 := h (0, 5, some 5) (by decide)
theorem cR_0_6 {M : zzM} (h : clR M) : zzR M 0 6 = some 16 := h (0, 6, some 16) (by decide)
theorem cR_0_7 {M : zzM} (h : clR M) : zzR M 0 7 = some 19 := h (0, 7, some 19) (by decide)
theorem cR_0_8 {M : zzM} (h : clR M) : zzR M 0 8 = some 23 := h (0, 8, some 23) (by decide)
theorem cR_0_9 {M : zzM} (h : clR M) : zzR M 0 9 = some 27 := h (0, 9, some 27) (by decide)
theorem cR_2_0 {M : zzM} (h : clR M) : zzR M 2 0 = some 3 := h (2, 0, some 3) (by decide)
theorem cR_2_1 {M : zzM} (h : clR M) : zzR M 2 1 = some 4 := h (2, 1, some 4) (by decide)
theorem cR_3_0 {M : zzM} (h : clR M) : zzR M 3 0 = none := h (3, 0, none) (by decide)
theorem cR_3_1 {M : zzM} (h : clR M) : zzR M 3 1 = none := h (3, 1, none) (by decide)
theorem cR_5_0 {M : zzM} (h : clR M) : zzR M 5 0 = some 6 := h (5, 0, some 6) (by decide)
theorem cR_5_2 {M : zzM} (h : clR M) : zzR M 5 2 = some 7 := h (5, 2, some 7) (by decide)
theorem cR_5_4 {M : zzM} (h : clR M) : zzR M 5 4 = some 8 := h (5, 4, some 8) (by decide)
theorem cR_5_5 {M : zzM} (h : clR M) : zzR M 5 5 = some 15 := h (5, 5, some 15) (by decide)
theorem cR_16_0 {M : zzM} (h : clR M) : zzR M 16 0 = some 5 := h (16, 0, some 5) (by decide)
theorem cR_16_1 {M : zzM} (h : clR M) : zzR M 16 1 = some 17 := h (16, 1, some 17) (by decide)
theorem cR_16_2 {M : zzM} (h : clR M) : zzR M 16 2 = some 18 := h (16, 2, some 18) (by decide)
theorem cR_19_0 {M : zzM} (h : clR M) : zzR M 19 0 = some 20 := h (19, 0, some 20) (by decide)
theorem cR_19_2 {M : zzM} (h : clR M) : zzR M 19 2 = some 21 := h (19, 2, some 21) (by decide)
theorem cR_19_4 {M : zzM} (h : clR M) : zzR M 19 4 = some 22 := h (19, 4, some 22) (by decide)
theorem cR_23_6 {M : zzM} (h : clR M) : zzR M 23 6 = some 26 := h (23, 6, some 26) (by decide)
theorem cR_27_0 {M : zzM} (h : clR M) : zzR M 27 0 = some 5 := h (27, 0, some 5) (by decide)
theorem cR_27_1 {M : zzM} (h : clR M) : zzR M 27 1 = some 16 := h (27, 1, some 16) (by decide)
theorem cR_27_2 {M : zzM} (h : clR M) : zzR M 27 2 = some 19 := h (27, 2, some 19) (by decide)
theorem cR_8 {M : zzM} (h : clR M) {j : Nat} (hj : j < 6) : zzR M 8 j = some (9 + j) := by
  rcases (show j = 0 ∨ j = 1 ∨ j = 2 ∨ j = 3 ∨ j = 4 ∨ j = 5 by omega) with rfl | rfl | rfl | rfl | rfl | rfl
  · exact h (8, 0, some 9) (by decide)
  · exact h (8, 1, some 10) (by decide)
  · exact h (8, 2, some 11) (by decide)
  · exact h (8, 3, some 12) (by decide)
  · exact h (8, 4, some 13) (by decide)
  · exact h (8, 5, some 14) (by decide)
theorem cR_4 {M : zzM} (h : clR M) {j : Nat} (hj : j < 26) : zzR M 4 j = none := by
  have hm : ∀ j, j < 26 → (4, j, none) ∈ lwrc := by decide
  exact h (4, j, none) (hm j hj)
theorem clR_I {M : zzM} {a k : Nat} {v : Int32} (h : clR M) : clR (zzsI M a k v) := h
theorem clR_L {M : zzM} {a k : Nat} {v : Int64} (h : clR M) : clR (zzsL M a k v) := h
theorem clR_R {M : zzM} {a k : Nat} {v : Option Nat} (h : clR M) (hq : ∀ q ∈ lwrc, ¬ (q.1 = a ∧ q.2.1 = k)) : clR (zzsR M a k v) := fun q hm => by
  rw [pR_R]
  by_cases h1 : q.1 = a
  · by_cases h2 : q.2.1 = k
    · exact absurd ⟨h1, h2⟩ (hq q hm)
    · rw [if_pos h1, if_neg h2]; exact h q hm
  · rw [if_neg h1]; exact h q hm
theorem clR_far {M : zzM} {a k : Nat} {v : Option Nat} (h : clR M) (ha : 63 ≤ a) : clR (zzsR M a k v) := clR_R h (fun q hm h1 => by
  have hs : ∀ q ∈ lwrc, q.1 < 63 := by decide
  have := hs q hm
  omega)
