/-! acts and closings: keeping, handlers, raising -/
theorem ck_9l {S : zzS} (h : clS S) {l : Nat} (hl : l < 6) : 9 + l < S.2.1 ∧ zzk S (9 + l) = 2 ∧ zzn S (9 + l) = 72 := by
  rcases (show l = 0 ∨ l = 1 ∨ l = 2 ∨ l = 3 ∨ l = 4 ∨ l = 5 by omega) with rfl | rfl | rfl | rfl | rfl | rfl
  · exact ⟨cl_9 h, ck_9 h, cn_9 h⟩
  · exact ⟨cl_10 h, ck_10 h, cn_10 h⟩
  · exact ⟨cl_11 h, ck_11 h, cn_11 h⟩
  · exact ⟨cl_12 h, ck_12 h, cn_12 h⟩
  · exact ⟨cl_13 h, ck_13 h, cn_13 h⟩
  · exact ⟨cl_14 h, ck_14 h, cn_14 h⟩
def ckp (M : zzM) (l : Nat) : zzM := zzcpL (zzsI M 15 l (zzI M 5 1)) 6 0 (9 + l) 0 72
theorem c_keep {S : zzS} {M : zzM} (hS : clS S) (hC : clR M) {l : Nat} (hl : l < 6) : F_Bd_keep S M 5 (nI l) = some ((), ckp M l) := by
  have h1 : ¬ nI l < 0 := nI_pos (by omega)
  have h2 : ¬ (6 : Int32) ≤ nI l := nI_ge (b := 6) hl (by omega)
  obtain ⟨k1, k2, k3⟩ := ck_9l hS hl
  have hC1 : clR (zzsI M 15 l (zzI M 5 1)) := hC
  have hok : zzcpok S 6 0 (9 + l) 0 (nI 72) = true := by
    unfold zzcpok
    rw [cn_6 hS, k3]
    decide
  have h72 : Int32.ofNat 72 = nI 72 := rfl
  simp only [F_Bd_keep, plet, pcall, pck, pI_I, pI_L, pI_R, pL_I, pL_L, pL_R, pR_I, pR_L, pR_R, if_neg h1, if_neg h2, cR_5_5 hC, cr_15 hS, pix (cn_15 hS) hl (by omega), pnI (show l < 100000 by omega), cR_5_0 hC, cr_6 hS, cR_5_4 hC, cr_8 hS, pix (cn_8 hS) hl (by omega), cR_8 hC hl, prefp k1 k2, cn_6 hS, h72, hok]
  rfl
def cpb (M : zzM) (l : Nat) : zzM := zzcpL (zzsI M 5 1 (zzI M 15 l)) (9 + l) 0 6 0 72
theorem c_putBack {S : zzS} {M : zzM} (hS : clS S) (hC : clR M) {l : Nat} (hl : l < 6) : F_Bd_putBack S M 5 (nI l) = some ((), cpb M l) := by
  have h1 : ¬ nI l < 0 := nI_pos (by omega)
  have h2 : ¬ (6 : Int32) ≤ nI l := nI_ge (b := 6) hl (by omega)
  obtain ⟨k1, k2, k3⟩ := ck_9l hS hl
  have hok : zzcpok S (9 + l) 0 6 0 (nI 72) = true := by
    unfold zzcpok
    rw [cn_6 hS, k3]
    decide
  have h72 : Int32.ofNat 72 = nI 72 := rfl
  simp only [F_Bd_putBack, plet, pcall, pck, pI_I, pI_L, pI_R, pL_I, pL_L, pL_R, pR_I, pR_L, pR_R, if_neg h1, if_neg h2, cR_5_5 hC, cr_15 hS, pix (cn_15 hS) hl (by omega), pnI (show l < 100000 by omega), cR_5_0 hC, cr_6 hS, cR_5_4 hC, cr_8 hS, pix (cn_8 hS) hl (by omega), cR_8 hC hl, prefp k1 k2, cn_6 hS, h72, hok]
  rfl
theorem e72 {h i : Nat} : (72 : Int32) * nI h + nI i = nI (72 * h + i) := by show nI 72 * nI h + nI i = _; rw [nI_mul, nI_add]
/-- the reference's handlers -/
def mh5 (M : zzM) (h : Nat) (kd g : Int32) : zzM := zzsI (zzsI (zzsI (zzsI (zzsI M 53 h kd) 54 h (zzI M 28 53)) 55 h g) 56 h 0) 60 h (zzI M 28 28)
theorem hnd_step {S : zzS} {n : Nat} : F_Md_handle_49 S (n + 1) = F_Md_handle_49_b S (F_Md_handle_49 S n) := rfl
theorem m_hnd_l {M : zzM} {h : Nat} (hR : mdR M) (hh : h < 16) (h55 : zzI M 28 55 = nI h) : ∀ (m k n : Nat), k + m = 72 → m < n → F_Md_handle_49 lwSm n (zzcpL M 45 0 59 (72 * h) k) 28 7 (nI h) (nI k) = some ((), zzsI (zzcpL M 45 0 59 (72 * h) 72) 28 55 (nI (h + 1)))
  | 0, k, n + 1, h1, h2 => by
    have : k = 72 := by omega
    subst this
    have e : zzI (zzcpL M 45 0 59 (72 * h) 72) 28 55 = nI h := h55
    rw [hnd_step]
    simp only [F_Md_handle_49_b, plet, pcall, pck, pI_I, pI_L, pI_R, pL_I, pL_L, pL_R, pR_I, pR_L, pR_R, e, ← nI_succ]
    rw [if_pos (by decide)]
  | m + 1, k, n + 1, h1, h2 => by
    have hR1 : mdR (zzcpL M 45 0 59 (72 * h) k) := hR
    have e := zcp_s M (a0 := 45) (sp := 0) (a1 := 59) (dp := 72 * h) (n := k) (by decide)
    rw [Nat.zero_add] at e
    rw [hnd_step]
    simp only [F_Md_handle_49_b, if_neg (show ¬ (72 : Int32) ≤ nI k from nI_ge (b := 72) (by omega) (by omega)), if_true, mR_62 hR1, mr_59, plet, e72, mR_29 hR1, mr_45, pix (S := lwSm) mn_45 (show k < 72 by omega) (by omega), pnI (show k < 100000 by omega), pix (S := lwSm) mn_59 (show 72 * h + k < 1152 by omega) (by omega), pnI (show 72 * h + k < 100000 by omega), e, ← nI_succ]
    exact m_hnd_l hR hh h55 m (k + 1) n (by omega) (by omega)
theorem m_handle7 {M : zzM} {h : Nat} {g : Int32} (hR : mdR M) (hh : h < 16) (h55 : zzI M 28 55 = nI h) : F_Md_handle lwSm M 28 7 g = some ((), zzsI (zzcpL (mh5 M h 7 g) 45 0 59 (72 * h) 72) 28 55 (nI (h + 1))) := by
  have hl := m_hnd_l (M := mh5 M h 7 g) (h := h) hR hh h55 72 0 2000 (by omega) (by omega)
  rw [zcp_0] at hl
  have hx : ∀ a, zzn lwSm a = 16 → ∀ x : Option (Unit × zzM), zzix lwSm a (nI h) x = x := fun a ha x => pix (S := lwSm) ha hh (by omega) x
  simp only [F_Md_handle, plet, pcall, pck, pI_I, pI_L, pI_R, pL_I, pL_L, pL_R, pR_I, pR_L, pR_R, h55, mR_56 hR, mr_53, hx 53 mn_53, pnI (show h < 100000 by omega), mR_57 hR, mr_54, hx 54 mn_54, mR_58 hR, mr_55, hx 55 mn_55, mR_59 hR, mr_56, hx 56 mn_56, mR_63 hR, mr_60, hx 60 mn_60]
  exact hl
theorem m_handle9 {M : zzM} {h : Nat} {g : Int32} (hR : mdR M) (hh : h < 16) (h55 : zzI M 28 55 = nI h) : F_Md_handle lwSm M 28 9 g = some ((), zzsI (mh5 M h 9 g) 28 55 (nI (h + 1))) := by
  have hx : ∀ a, zzn lwSm a = 16 → ∀ x : Option (Unit × zzM), zzix lwSm a (nI h) x = x := fun a ha x => pix (S := lwSm) ha hh (by omega) x
  have e : zzI (mh5 M h 9 g) 28 55 = nI h := h55
  simp only [F_Md_handle, plet, pcall, pck, pI_I, pI_L, pI_R, pL_I, pL_L, pL_R, pR_I, pR_L, pR_R, h55, mR_56 hR, mr_53, hx 53 mn_53, pnI (show h < 100000 by omega), mR_57 hR, mr_54, hx 54 mn_54, mR_58 hR, mr_55, hx 55 mn_55, mR_59 hR, mr_56, hx 56 mn_56, mR_63 hR, mr_60, hx 60 mn_60]
  show F_Md_handle_49 lwSm (1999 + 1) (mh5 M h 9 g) 28 9 (nI h) 0 = _
  rw [hnd_step]
  simp only [F_Md_handle_49_b, plet, pcall, pck, pI_I, pI_L, pI_R, pL_I, pL_L, pL_R, pR_I, pR_L, pR_R, e, ← nI_succ]
  rw [if_neg (by decide), if_neg (by decide)]
theorem mh5_n {M : zzM} {h : Nat} {kd g : Int32} : nmF M (mh5 M h kd g) := (((((nmF_a _ (by omega)).tr (nmF_a _ (by omega))).tr (nmF_a _ (by omega))).tr (nmF_a _ (by omega))).tr (nmF_a _ (by omega)))
theorem zcpL_n {M : zzM} {sp dp n : Nat} : nmF M (zzcpL M 45 sp 59 dp n) := ⟨fun _ _ _ _ _ => rfl, fun b j h1 _ _ => by simp only [zzL, zzcpL, if_neg h1], rfl⟩
theorem mh5_f {M : zzM} {h c : Nat} {kd g : Int32} : fmH h c M (mh5 M h kd g) := by
  refine ⟨fun a h1 h2 j hj => ?_, fun j hj => ?_, fun j _ => rfl, fun j _ => rfl⟩
  · simp only [mh5, plet, pcall, pck, pI_I, pI_L, pI_R, pL_I, pL_L, pL_R, pR_I, pR_L, pR_R]
    have : j ≠ h := by omega
    simp [this]
  · simp only [mh5, plet, pcall, pck, pI_I, pI_L, pI_R, pL_I, pL_L, pL_R, pR_I, pR_L, pR_R]
    have : j ≠ h := by omega
    simp [this]
theorem mh5_v {M : zzM} {h : Nat} {kd g : Int32} : zzI (mh5 M h kd g) 53 h = kd ∧ zzI (mh5 M h kd g) 54 h = zzI M 28 53 ∧ zzI (mh5 M h kd g) 55 h = g ∧ zzI (mh5 M h kd g) 56 h = 0 ∧ zzI (mh5 M h kd g) 60 h = zzI M 28 28 := by
  refine ⟨?_, ?_, ?_, ?_, ?_⟩ <;> simp [mh5, plet, pcall, pck, pI_I, pI_L, pI_R, pL_I, pL_L, pL_R, pR_I, pR_L, pR_R]
/-! raising -/
def mr1 (M : zzM) (h : Nat) : zzM := zzsI (zzsI M 28 55 (nI h)) 28 53 (zzI M 54 h)
def mpb (M : zzM) (h : Nat) : zzM := zzsI (zzcpL (zzsI (mr1 M h) 28 28 (zzI M 60 h)) 59 (72 * h) 45 0 72) 28 44 1
theorem rai_step {S : zzS} {n : Nat} : F_Md_raise_3 S (n + 1) = F_Md_raise_3_b S (F_Md_raise_3 S n) := rfl
theorem pb_step {S : zzS} {n : Nat} : F_Md_putBack_12 S (n + 1) = F_Md_putBack_12_b S (F_Md_putBack_12 S n) := rfl
theorem m_pb_l {M : zzM} {h : Nat} (hR : mdR M) (hh : h < 16) : ∀ (m k n : Nat), k + m = 72 → m < n → F_Md_putBack_12 lwSm n (zzcpL M 59 (72 * h) 45 0 k) 28 (nI h) (nI k) = some ((), zzsI (zzcpL M 59 (72 * h) 45 0 72) 28 44 1)
  | 0, k, n + 1, h1, h2 => by
    have : k = 72 := by omega
    subst this
    have hz : zzokZ 1 = true := by decide
    rw [pb_step]
    simp only [F_Md_putBack_12_b, plet, pcall, pck, pI_I, pI_L, pI_R, pL_I, pL_L, pL_R, pR_I, pR_L, pR_R, hz]
    rw [if_pos (by decide)]
  | m + 1, k, n + 1, h1, h2 => by
    have hR1 : mdR (zzcpL M 59 (72 * h) 45 0 k) := hR
    have e := zcp_s M (a0 := 59) (sp := 72 * h) (a1 := 45) (dp := 0) (n := k) (by decide)
    rw [Nat.zero_add] at e
    rw [pb_step]
    simp only [F_Md_putBack_12_b, if_neg (show ¬ (72 : Int32) ≤ nI k from nI_ge (b := 72) (by omega) (by omega)), mR_62 hR1, mr_59, plet, e72, mR_29 hR1, mr_45, pix (S := lwSm) mn_45 (show k < 72 by omega) (by omega), pnI (show k < 100000 by omega), pix (S := lwSm) mn_59 (show 72 * h + k < 1152 by omega) (by omega), pnI (show 72 * h + k < 100000 by omega), e, ← nI_succ]
    exact m_pb_l hR hh m (k + 1) n (by omega) (by omega)
theorem m_putBack {M : zzM} {h : Nat} (hR : mdR M) (hh : h < 16) : F_Md_putBack lwSm M 28 (nI h) = some ((), zzsI (zzcpL (zzsI M 28 28 (zzI M 60 h)) 59 (72 * h) 45 0 72) 28 44 1) := by
  have hl := m_pb_l (M := zzsI M 28 28 (zzI M 60 h)) (h := h) hR hh 72 0 2000 (by omega) (by omega)
  rw [zcp_0] at hl
  simp only [F_Md_putBack, plet, pcall, pck, pI_I, pI_L, pI_R, pL_I, pL_L, pL_R, pR_I, pR_L, pR_R, mR_63 hR, mr_60, pix (S := lwSm) mn_60 hh (by omega), pnI (show h < 100000 by omega)]
  exact hl
theorem m_rai_7 {M : zzM} {h r : Nat} {p v kd : Int32} (hR : mdR M) (hh : h < 16) (h55 : zzI M 28 55 = nI (h + 1)) (hk : zzI M 53 h = 7) : F_Md_raise_3 lwSm (r + 1) M 28 p v kd = F_Md_raise_3 lwSm r (mpb M h) 28 p v kd := by
  have hx : ∀ a, zzn lwSm a = 16 → ∀ x : Option (Unit × zzM), zzix lwSm a (nI h) x = x := fun a ha x => pix (S := lwSm) ha hh (by omega) x
  have hR1 : mdR (mr1 M h) := hR
  have hp := m_putBack (M := mr1 M h) hR1 hh
  have hR2 : mdR (mpb M h) := hR
  have e60 : zzI (mr1 M h) 60 h = zzI M 60 h := rfl
  rw [e60] at hp
  have e53 : zzI (mpb M h) 53 h = 7 := hk
  rw [rai_step]
  simp only [F_Md_raise_3_b, plet, pcall, pck, pI_I, pI_L, pI_R, pL_I, pL_L, pL_R, pR_I, pR_L, pR_R, h55, if_neg (nI_nle (show 0 < h + 1 by omega) (by omega)), nI_pred, if_true, mR_57 hR, mr_54, hx 54 mn_54, pnI (show h < 100000 by omega), mR_56 hR, mr_53, hx 53 mn_53, if_neg (show ¬ 53 = 28 by decide), if_neg (show ¬ 54 = 28 by decide), hk]
  rw [show zzsI (zzsI M 28 55 (nI h)) 28 53 (zzI M 54 h) = mr1 M h from rfl, hp]
  show F_Md_raise_55 lwSm (F_Md_raise_3 lwSm r) (mpb M h) 28 p v kd (nI h) = _
  simp only [F_Md_raise_55, mR_56 hR2, mr_53, hx 53 mn_53, pnI (show h < 100000 by omega), plet, e53]
  rw [if_neg (by decide)]
theorem m_rai_10 {M : zzM} {h r : Nat} {p v kd : Int32} (hR : mdR M) (hh : h < 16) (h55 : zzI M 28 55 = nI (h + 1)) (hk : zzI M 53 h = 10) : F_Md_raise_3 lwSm (r + 1) M 28 p v kd = F_Md_raise_3 lwSm r (mr1 M h) 28 p v kd := by
  have hx : ∀ a, zzn lwSm a = 16 → ∀ x : Option (Unit × zzM), zzix lwSm a (nI h) x = x := fun a ha x => pix (S := lwSm) ha hh (by omega) x
  rw [rai_step]
  simp only [F_Md_raise_3_b, F_Md_raise_55, plet, pcall, pck, pI_I, pI_L, pI_R, pL_I, pL_L, pL_R, pR_I, pR_L, pR_R, h55, if_neg (nI_nle (show 0 < h + 1 by omega) (by omega)), nI_pred, if_true, mR_57 hR, mr_54, hx 54 mn_54, pnI (show h < 100000 by omega), mR_56 hR, mr_53, hx 53 mn_53, if_neg (show ¬ 53 = 28 by decide), if_neg (show ¬ 54 = 28 by decide), hk]
  rw [if_neg (by decide), if_neg (by decide)]
  rfl
def mtr (M : zzM) (h : Nat) (p v kd : Int32) : zzM := zzsI (zzsI (zzsI (zzsI (zzsI (zzsI (mr1 M h) 53 h 10) 56 h kd) 57 h p) 58 h v) 28 55 (nI (h + 1))) 28 52 (zzI M 55 h)
theorem m_rai_9 {M : zzM} {h r : Nat} {p v kd : Int32} (hR : mdR M) (hh : h < 16) (h55 : zzI M 28 55 = nI (h + 1)) (hk : zzI M 53 h = 9) : F_Md_raise_3 lwSm (r + 1) M 28 p v kd = some ((), mtr M h p v kd) := by
  have hx : ∀ a, zzn lwSm a = 16 → ∀ x : Option (Unit × zzM), zzix lwSm a (nI h) x = x := fun a ha x => pix (S := lwSm) ha hh (by omega) x
  rw [rai_step]
  simp only [F_Md_raise_3_b, F_Md_raise_55, plet, pcall, pck, pI_I, pI_L, pI_R, pL_I, pL_L, pL_R, pR_I, pR_L, pR_R, h55, if_neg (nI_nle (show 0 < h + 1 by omega) (by omega)), nI_pred, if_true, mR_57 hR, mr_54, hx 54 mn_54, pnI (show h < 100000 by omega), mR_56 hR, mr_53, hx 53 mn_53, if_neg (show ¬ 53 = 28 by decide), if_neg (show ¬ 54 = 28 by decide), hk, mR_59 hR, mr_56, hx 56 mn_56, mR_60 hR, mr_57, hx 57 mn_57, mR_61 hR, mr_58, hx 58 mn_58, mR_58 hR, mr_55, hx 55 mn_55]
  rw [if_neg (by decide)]
  simp [mtr, mr1, ← nI_succ]
def mto (M : zzM) (p v kd : Int32) : zzM := zzsI (zzsI (zzsI (zzsI (zzsI M 28 46 kd) 28 47 p) 28 48 v) 28 50 1) 28 49 1
theorem m_rai_0 {M : zzM} {r : Nat} {p v kd : Int32} (h55 : zzI M 28 55 = 0) : F_Md_raise_3 lwSm (r + 1) M 28 p v kd = some ((), mto M p v kd) := by
  have hz : zzokZ 1 = true := by decide
  rw [rai_step]
  simp only [F_Md_raise_3_b, plet, pcall, pck, pI_I, pI_L, pI_R, pL_I, pL_L, pL_R, pR_I, pR_L, pR_R, h55, hz]
  rw [if_pos (by decide)]
  rfl
