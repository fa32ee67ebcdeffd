/-! the class's descent against the reference's signs: what is common -/
theorem c_joins {S : zzS} {M : zzM} {r x : Nat} (hr : r < 3) (hx : x < 128) : F_Rd_joins S M (nI r) (nI x) = some (if stN x = r + 1 then 1 else 0, M) := by
  have hr3 : r = 0 ∨ r = 1 ∨ r = 2 := by omega
  have ne : ∀ v, v < 128 → x ≠ v → ¬ nI x = nI v := fun v hv h e => h ((peq (by omega) (by omega)).mp e)
  by_cases h37 : x = 37
  · subst h37; rcases hr3 with rfl | rfl | rfl <;> rfl
  · by_cases h42 : x = 42
    · subst h42; rcases hr3 with rfl | rfl | rfl <;> rfl
    · by_cases h43 : x = 43
      · subst h43; rcases hr3 with rfl | rfl | rfl <;> rfl
      · by_cases h45 : x = 45
        · subst h45; rcases hr3 with rfl | rfl | rfl <;> rfl
        · by_cases h47 : x = 47
          · subst h47; rcases hr3 with rfl | rfl | rfl <;> rfl
          · by_cases h60 : x = 60
            · subst h60; rcases hr3 with rfl | rfl | rfl <;> rfl
            · by_cases h61 : x = 61
              · subst h61; rcases hr3 with rfl | rfl | rfl <;> rfl
              · have hs : stN x = 0 := by unfold stN; rw [if_neg (by omega), if_neg (by omega), if_neg (by omega)]
                unfold F_Rd_joins
                rw [hs, if_neg (show ¬ 0 = r + 1 by omega)]
                simp only [if_neg (show ¬ nI x = (37 : Int32) from ne 37 (by omega) h37), if_neg (show ¬ nI x = (42 : Int32) from ne 42 (by omega) h42), if_neg (show ¬ nI x = (43 : Int32) from ne 43 (by omega) h43), if_neg (show ¬ nI x = (45 : Int32) from ne 45 (by omega) h45), if_neg (show ¬ nI x = (47 : Int32) from ne 47 (by omega) h47), if_neg (show ¬ nI x = (60 : Int32) from ne 60 (by omega) h60), if_neg (show ¬ nI x = (61 : Int32) from ne 61 (by omega) h61), ite_self]
/-- codes that leave one value more, reaching at most m above where they began -/
def wfA (A : List (Int32 × Int32)) (m : Nat) : Prop := ∀ rest h, h + m ≤ 13 → wfC rest (h + 1) → wfC (A ++ rest) h
theorem wfA.mo {A : List (Int32 × Int32)} {m m2 : Nat} (H : wfA A m) (h : m ≤ m2) : wfA A m2 := fun rest k hk hw => H rest k (by omega) hw
theorem wfA_un {A : List (Int32 × Int32)} {m : Nat} {x : Int32 × Int32} (H : wfA A m) (hx : x.1 = 95 ∨ x.1 = 39 ∨ (x.1 = 64 ∧ ∃ k, k < 6 ∧ x.2 = nI k)) : wfA (A ++ [x]) m := fun rest k hk hw => by
  rw [List.append_assoc]
  refine H _ k hk ?_
  rcases hx with h | h | ⟨h, h2⟩
  · exact Or.inr (Or.inr (Or.inr (Or.inl ⟨h, by omega, hw⟩)))
  · exact Or.inr (Or.inr (Or.inr (Or.inr (Or.inr (Or.inl ⟨h, by omega, hw⟩)))))
  · exact Or.inr (Or.inr (Or.inr (Or.inr (Or.inl ⟨h, h2, by omega, hw⟩))))
theorem wfA_bin {A B : List (Int32 × Int32)} {m m2 : Nat} {x : Int32 × Int32} (H : wfA A m) (H2 : wfA B m2) (hm : m2 + 1 ≤ m) (hx : pjt x.1) : wfA (A ++ B ++ [x]) m := fun rest k hk hw => by
  rw [List.append_assoc, List.append_assoc]
  refine H _ k hk (H2 _ (k + 1) (by omega) ?_)
  exact Or.inr (Or.inr (Or.inr (Or.inr (Or.inr (Or.inr ⟨hx, by omega, hw⟩)))))
theorem stN_pjt {x : Nat} (h : 1 ≤ stN x) : pjt (nI x) ∧ opc (nI x) = nI x ∧ x < 128 ∧ x ≠ 40 ∧ x ≠ 0 ∧ x ≠ 95 ∧ x ≠ 39 ∧ x ≠ 64 := by
  have : x = 42 ∨ x = 47 ∨ x = 37 ∨ x = 43 ∨ x = 45 ∨ x = 60 ∨ x = 61 := by
    unfold stN at h
    by_cases h1 : x = 42 ∨ x = 47 ∨ x = 37
    · omega
    · rw [if_neg h1] at h
      by_cases h2 : x = 43 ∨ x = 45
      · omega
      · rw [if_neg h2] at h
        by_cases h3 : x = 60 ∨ x = 61
        · omega
        · rw [if_neg h3] at h; omega
  rcases this with rfl | rfl | rfl | rfl | rfl | rfl | rfl <;> exact ⟨by unfold pjt; decide, by decide, by omega, by omega, by omega, by omega, by omega, by omega⟩
/-- no line feed from i to j -/
def nn (T : Nat → Nat) (i j : Nat) : Prop := ∀ k, i ≤ k → k < j → T k ≠ 10
theorem nn.tr {T : Nat → Nat} {i j k : Nat} (h : nn T i j) (g : nn T j k) : nn T i k := fun x h1 h2 => by
  rcases Nat.lt_or_ge x j with h3 | h3
  · exact h x h1 h3
  · exact g x h3 h2
theorem nn_1 {T : Nat → Nat} {N i : Nat} (h0 : chT T N i ≠ 0) (h : chT T N i ≠ 10) : nn T i (i + 1) := fun x h1 h2 => by
  have e : x = i := by omega
  rw [e, ← (chT_lt h0).2]; exact h
theorem nn_num {T : Nat → Nat} {N : Nat} : ∀ k i v, nn T i (numT T N k i v).2
  | 0, i, v => fun x h1 h2 => by
    have : (numT T N 0 i v).2 = i := rfl
    omega
  | k + 1, i, v => by
    unfold numT
    by_cases hd : 48 ≤ chT T N i ∧ chT T N i ≤ 57
    · rw [if_pos hd]
      exact (nn_1 (N := N) (by omega) (by omega)).tr (nn_num k (i + 1) _)
    · rw [if_neg hd]
      exact fun x h1 h2 => by omega
def okA (A : List (Int32 × Int32)) : Prop := ∀ x ∈ A, okq x
theorem okA.app {A B : List (Int32 × Int32)} (h : okA A) (g : okA B) : okA (A ++ B) := fun x hx => by
  rcases List.mem_append.mp hx with h1 | h1
  · exact h x h1
  · exact g x h1
theorem okA_1 {x : Int32 × Int32} (h : okq x) : okA [x] := fun y hy => by simp at hy; subst hy; exact h
theorem plA_f {T : Nat → Nat} {N i i2 : Nat} {x : Int32 × Int32} (h : plA T N i x i2) (hi : i ≤ N) : i < i2 ∧ i2 ≤ N ∧ wfA [x] 1 ∧ okq x ∧ nn T i i2 := by
  rcases h with ⟨h1, h2, rfl, rfl⟩ | ⟨h1, h2, rfl, rfl⟩ | ⟨h1, rfl, rfl⟩
  · obtain ⟨a1, a2, a3⟩ := numT_le (T := T) (N := N) 4 i 0 1 (by omega)
    have hlt := chT_lt (T := T) (N := N) (i := i) (by omega)
    have : i < (numT T N 4 i 0).2 := by
      have e : numT T N 4 i 0 = numT T N 3 (i + 1) (10 * 0 + (chT T N i - 48)) := by
        show (if 48 ≤ chT T N i ∧ chT T N i ≤ 57 then _ else _) = _
        rw [if_pos ⟨h1, h2⟩]
      rw [e]
      have := (numT_le (T := T) (N := N) 3 (i + 1) (10 * 0 + (chT T N i - 48)) 1000 (by omega)).2.1
      omega
    exact ⟨this, a3 hi, fun rest h hh hw => Or.inl ⟨rfl, by omega, hw⟩, ⟨(numT T N 4 i 0).1, 110, by omega, by omega, rfl, rfl⟩, nn_num 4 i 0⟩
  · have hlt := chT_lt (T := T) (N := N) (i := i) (by omega)
    exact ⟨by omega, by omega, fun rest h hh hw => Or.inr (Or.inl ⟨rfl, ⟨_, by omega, rfl⟩, by omega, hw⟩), ⟨chT T N i - 97, 118, by omega, by omega, rfl, rfl⟩, nn_1 (N := N) (by omega) (by omega)⟩
  · have hlt := chT_lt (T := T) (N := N) (i := i) (by omega)
    exact ⟨by omega, by omega, fun rest h hh hw => Or.inr (Or.inr (Or.inl ⟨rfl, by omega, hw⟩)), ⟨0, 35, by omega, by omega, rfl, by decide⟩, nn_1 (N := N) (by omega) (by omega)⟩
theorem FGR_s (S : zzS) (n : Nat) : FG_R S (n + 1) = (F_Rd_ranked S (FG_R S n).1 (FG_R S n).2, F_Rd_atom S (FG_R S n).1 (FG_R S n).2) := rfl
theorem FDr_s {S : zzS} {n : Nat} : FD_Rd_ranked S (n + 1) = F_Rd_ranked S (FD_Rd_ranked S n) (FD_Rd_atom S n) := by
  unfold FD_Rd_ranked FD_Rd_atom
  rw [FGR_s]
theorem FDa_s {S : zzS} {n : Nat} : FD_Rd_atom S (n + 1) = F_Rd_atom S (FD_Rd_ranked S n) (FD_Rd_atom S n) := by
  unfold FD_Rd_ranked FD_Rd_atom
  rw [FGR_s]
abbrev aft (wh bg : Int32) (g f : Nat) (M : zzM) : Option (Int32 × zzM) := zzcall (F_Md_complete_0 lwSm g M 28) (fun _ M => rc wh bg f M 1 0)
/-- no expression: both stand at p -/
def xF (S : zzS) (N w q : Nat) (wh bg : Int32) (i : Nat) (Mc Mm : zzM) (x : Option (Int32 × zzM)) (G : Nat → Option (Int32 × zzM)) : Prop := ∃ p Mc1 Mm1 k, x = some (0, Mc1) ∧ frE Mc Mc1 ∧ frX w q Mm Mm1 ∧ zzI Mc1 23 2 = nI p ∧ p ≤ N ∧ i ≤ p ∧ (∀ f, G (f + k + 1) = some (bg, Mm1)) ∧ zzI Mm1 28 17 = nI p ∧ k ≤ p - i + 1 ∧ ∃ j, j < 1000 ∧ zzI Mm1 28 16 = nI j
def aP (S : zzS) (T : Nat → Nat) (N w q : Nat) (wh bg : Int32) (n d : Nat) : Prop := ∀ i ks σ Mc Mm, cX S Mc T N i ks → mX Mm T N w q i ks σ d → q + ks.length < i → σ.length ≤ 4 * d + 3 → (∀ x ∈ σ, x < 128) →
  (∃ i2 A Mc1 Mm1 k g, FD_Rd_atom S n Mc 23 (nI d) = some (1, Mc1) ∧ frE Mc Mc1 ∧ frX w q Mm Mm1 ∧ cX S Mc1 T N i2 (ks ++ A) ∧ mX Mm1 T N w q i2 (ks ++ A) σ d ∧ (∀ f, rc wh bg (f + k) Mm 1 1 = aft wh bg g f Mm1) ∧ 1990 + d ≤ g ∧ k ≤ i2 - i ∧ i < i2 ∧ A.length ≤ i2 - i ∧ wfA A (1 + 3 * (3 - d)) ∧ okA A ∧ nn T i i2)
  ∨ xF S N w q wh bg i Mc Mm (FD_Rd_atom S n Mc 23 (nI d)) (fun f => rc wh bg f Mm 1 1)
def nxC (r c : Nat) (pend : List Nat) : Prop := (1 ≤ r → stN c ≤ r) ∧ (r = 0 → stN c ≤ 1 ∧ (stN c = 1 → ∃ x ∈ pend, stN x = 1))
def kO (S : zzS) (T : Nat → Nat) (N w q : Nat) (wh bg : Int32) (r d i : Nat) (ks : List (Int32 × Int32)) (σ : List Nat) (Mc Mm : zzM) (x : Option (Int32 × zzM)) (G : Nat → Option (Int32 × zzM)) : Prop := ∃ i2 E E1 pend Mc1 Mm1 k, x = some (1, Mc1) ∧ frE Mc Mc1 ∧ frX w q Mm Mm1 ∧ cX S Mc1 T N i2 (ks ++ E) ∧ mX Mm1 T N w q i2 (ks ++ E1) (pend ++ σ) d ∧ E = E1 ++ pend.map (fun c => (nI c, 0)) ∧ (∀ f, G (f + k) = rc wh bg f Mm1 1 0) ∧ k ≤ i2 - i ∧ i < i2 ∧ E.length ≤ i2 - i ∧ wfA E (1 + 3 * (3 - d) + (3 - r)) ∧ okA E ∧ (∀ x ∈ pend, x < 128 ∧ x ≠ 40 ∧ r + 1 ≤ stN x) ∧ pend.length ≤ 3 - r ∧ nxC r (chT T N i2) pend ∧ nn T i i2
def kP (S : zzS) (T : Nat → Nat) (N w q : Nat) (wh bg : Int32) (n r d : Nat) : Prop := ∀ i ks σ Mc Mm, cX S Mc T N i ks → mX Mm T N w q i ks σ d → q + ks.length < i → σ.length ≤ 4 * d + r → (∀ x ∈ σ, x < 128) → (∀ x s, σ = x :: s → stN x ≤ r ∧ x ≠ 95 ∧ x ≠ 39 ∧ x ≠ 64) → (wh = 1 ∨ σ ≠ []) → (r = 0 → σ = [] ∨ ∃ s, σ = 40 :: s) →
  kO S T N w q wh bg r d i ks σ Mc Mm (FD_Rd_ranked S n Mc 23 (nI r) (nI d)) (fun f => rc wh bg f Mm 1 1) ∨ xF S N w q wh bg i Mc Mm (FD_Rd_ranked S n Mc 23 (nI r) (nI d)) (fun f => rc wh bg f Mm 1 1)
/-- rank 3 is an atom -/
theorem k_3 {S : zzS} {T : Nat → Nat} {N w q : Nat} {wh bg : Int32} {n d : Nat} (hd : d ≤ 3) (H : aP S T N w q wh bg n d) : kP S T N w q wh bg (n + 1) 3 d := by
  intro i ks σ Mc Mm hc hm hq hl hσ ht hwh h0
  have e : ∀ v Mc1, (v = 0 ∨ v = 1) → FD_Rd_atom S n Mc 23 (nI d) = some (v, Mc1) → FD_Rd_ranked S (n + 1) Mc 23 (nI 3) (nI d) = some (v, Mc1) := fun v Mc1 hv h => by
    have hz : zzokZ v = true := by rcases hv with rfl | rfl <;> decide
    rw [FDr_s, F_Rd_ranked, if_neg (by decide), h, pcall, hz, pck]
  rcases H i ks σ Mc Mm hc hm hq hl hσ with ⟨i2, A, Mc1, Mm1, k, g, a1, a2, a3, a4, a5, a6, a7, a8, a9, a10, a11, a12, a13⟩ | ⟨p, Mc1, Mm1, k, a1, a2⟩
  · refine Or.inl ⟨i2, A, A, [], Mc1, Mm1, k, e _ _ (Or.inr rfl) a1, a2, a3, a4, a5, by simp, fun f => ?_, a8, a9, a10, a11.mo (by omega), a12, by simp, by simp, ⟨fun _ => stN_le _, fun h => absurd h (by omega)⟩, a13⟩
    show rc wh bg (f + k) Mm 1 1 = _
    rw [a6]
    obtain ⟨g2, rfl⟩ : ∃ g2, g = g2 + 1 := ⟨g - 1, by omega⟩
    rw [aft, cmp_stop a5 (by omega) (fun x s hx => ⟨hσ x (by rw [hx]; simp), (ht x s hx).2⟩), pcall]
  · exact Or.inr ⟨p, Mc1, Mm1, k, e _ _ (Or.inl rfl) a1, a2⟩
abbrev cR39 (S : zzS) (n q : Nat) := F_Rd_ranked_39 S (FD_Rd_ranked S n) (FD_Rd_atom S n) q
theorem r39_step {S : zzS} {n q : Nat} : cR39 S n (q + 1) = F_Rd_ranked_39_b S (FD_Rd_ranked S n) (FD_Rd_atom S n) (cR39 S n q) := rfl
/-- the loop of one rank -/
theorem k_loop {S : zzS} {T : Nat → Nat} {N w q : Nat} {wh bg : Int32} {n r d : Nat} (hd : d ≤ 3) (hr : r < 3) (H : kP S T N w q wh bg n (r + 1) d) {i0 : Nat} {ks : List (Int32 × Int32)} {σ : List Nat} {Mc0 Mm0 : zzM} (hq0 : q + ks.length < i0) (hl : σ.length ≤ 4 * d + r) (hσ : ∀ x ∈ σ, x < 128) (ht : ∀ x s, σ = x :: s → stN x ≤ r ∧ x ≠ 95 ∧ x ≠ 39 ∧ x ≠ 64) (hwh : wh = 1 ∨ σ ≠ []) (h0 : r = 0 → σ = [] ∨ ∃ s, σ = 40 :: s) {G : Nat → Option (Int32 × zzM)} : ∀ (y m n2 i k : Nat) (E E1 : List (Int32 × Int32)) (pend : List Nat) (Mc Mm : zzM), N - i < y → y ≤ n2 → m < i → (r = 0 → (m = 0 ∧ ∀ x ∈ pend, 2 ≤ stN x) ∨ (m = 1 ∧ ∃ x ∈ pend, stN x = 1)) → frE Mc0 Mc → frX w q Mm0 Mm → cX S Mc T N i (ks ++ E) → mX Mm T N w q i (ks ++ E1) (pend ++ σ) d → E = E1 ++ pend.map (fun c => (nI c, 0)) → (∀ f, G (f + k) = rc wh bg f Mm 1 0) → k ≤ i - i0 → i0 < i → E.length ≤ i - i0 → wfA E (1 + 3 * (3 - d) + (3 - r)) → okA E → (∀ x ∈ pend, x < 128 ∧ x ≠ 40 ∧ r + 1 ≤ stN x) → pend.length ≤ 3 - r → stN (chT T N i) ≤ r + 1 → nn T i0 i →
    kO S T N w q wh bg r d i0 ks σ Mc0 Mm0 (cR39 S n n2 Mc 23 (nI r) (nI d) (if r = 0 then 1 else 400) (nI m)) G ∨ xF S N w q wh bg i0 Mc0 Mm0 (cR39 S n n2 Mc 23 (nI r) (nI d) (if r = 0 then 1 else 400) (nI m)) G := by
  intro y
  induction y with
  | zero => intro m n2 i k E E1 pend Mc Mm hy; omega
  | succ y ih =>
    intro m n2 i k E E1 pend Mc Mm hy hn2 hmi hr0 hfc hfm hc hm hE hG hk hi hEl hw hok hp hpl hs hnn
    obtain ⟨n3, rfl⟩ : ∃ n3, n2 = n3 + 1 := ⟨n2 - 1, by omega⟩
    have hrc := hc.1
    have hN := hrc.2.2.2.2.1
    have hiN := hc.2.2.1
    have hokT : ∀ i, i < N → okc (T i) := fun i hi => (hrc.2.2.2.2.2 i hi).2
    have hch := chT_le hokT i
    have stop : ∀ (hnx : nxC r (chT T N i) pend), cR39 S n (n3 + 1) Mc 23 (nI r) (nI d) (if r = 0 then 1 else 400) (nI m) = some (1, Mc) → kO S T N w q wh bg r d i0 ks σ Mc0 Mm0 (cR39 S n (n3 + 1) Mc 23 (nI r) (nI d) (if r = 0 then 1 else 400) (nI m)) G := fun hnx e => ⟨i, E, E1, pend, Mc, Mm, k, e, hfc, hfm, hc, hm, hE, hG, hk, hi, hEl, hw, hok, hp, hpl, hnx, hnn⟩
    by_cases hmost : r = 0 ∧ m = 1
    · refine Or.inl (stop ⟨fun h => by omega, fun _ => ⟨by omega, fun _ => ?_⟩⟩ ?_)
      · rcases hr0 hmost.1 with ⟨h1, _⟩ | ⟨_, h1⟩
        · omega
        · exact h1
      · rw [r39_step]
        simp only [F_Rd_ranked_39_b, if_pos hmost.1, hmost.2]
        exact if_pos (by decide)
    · have hne : ¬ (if r = 0 then (1 : Int32) else 400) ≤ nI m := by
        by_cases hr1 : r = 0
        · rcases hr0 hr1 with ⟨h1, _⟩ | ⟨h1, _⟩
          · rw [if_pos hr1, h1]; decide
          · exact absurd ⟨hr1, h1⟩ hmost
        · rw [if_neg hr1]
          exact nI_ge (b := 400) (by omega) (by omega)
      by_cases hj : stN (chT T N i) = r + 1
      · obtain ⟨j1, j2, j3, j4, j5, j6, j7, j8⟩ := stN_pjt (x := chT T N i) (by omega)
        obtain ⟨hlt, -⟩ := chT_lt j5
        have hE1l : E1.length + pend.length = E.length := by rw [hE]; simp
        obtain ⟨Mm1, b1, b2, b3⟩ := rc_op (wh := wh) (bg := bg) hm hlt (by simp; omega) (by rcases hwh with h | h; exact Or.inl h; exact Or.inr (by simp [h])) (by simp; omega) (by omega) (fun x hx => ⟨(hp x hx).1, (hp x hx).2.1, by rw [hj]; exact (hp x hx).2.2⟩) (fun x s hx => ⟨hσ x (by rw [hx]; simp), by have := (ht x s hx).1; omega⟩) (fun h1 => by
          have hrz : r = 0 := by omega
          refine ⟨fun x hx => ?_, h0 hrz⟩
          rcases hr0 hrz with ⟨_, h2⟩ | ⟨h2, _⟩
          · have := h2 x hx; omega
          · exact absurd ⟨hrz, h2⟩ hmost)
        have hks : ks ++ E1 ++ pend.map (fun c => (nI c, 0)) = ks ++ E := by rw [hE, List.append_assoc]
        rw [hks] at b2
        have hc1 := hc.step hlt
        have hfc1 := hfc.tr (frE_h (M := Mc) (nI (i + 1)))
        have hkl : (ks ++ E).length = ks.length + E.length := by simp
        have ecl : cR39 S n (n3 + 1) Mc 23 (nI r) (nI d) (if r = 0 then 1 else 400) (nI m) = zzcall (FD_Rd_ranked S n (zzsI Mc 23 2 (nI (i + 1))) 23 (nI (r + 1)) (nI d)) fun r6 M => if r6 = 0 then (some ((0 : Int32), M)) else (zzcall (F_Rd_emit S M 23 (nI (chT T N i)) (0 : Int32)) fun r7 M => if r7 = 0 then (some ((0 : Int32), M)) else cR39 S n n3 M 23 (nI r) (nI d) (if r = 0 then 1 else 400) (nI (m + 1))) := by
          rw [r39_step]
          simp only [F_Rd_ranked_39_b, if_neg hne, c_peek hrc hc.2.1 hiN, pcall, c_joins hr (show chT T N i < 128 by omega), if_pos hj, plet, hc.2.1, ← nI_succ]
          rw [if_neg (show ¬ (1 : Int32) = 0 by decide)]
        rw [ecl]
        rcases H (i + 1) (ks ++ E) (chT T N i :: σ) _ Mm1 hc1 b2 (by omega) (by simp; omega) (fun x hx => by
          simp at hx
          rcases hx with hx | hx
          · omega
          · exact hσ x hx) (fun x s hx => by cases hx; exact ⟨by omega, j6, j7, j8⟩) (Or.inr (by simp)) (fun h => absurd h (by omega)) with ⟨i2, F, F1, pd, Mc2, Mm2, k2, a1, a2, a3, a4, a5, a6, a7, a8, a9, a10, a11, a12, a13, a14, a15, a16⟩ | ⟨p, Mc2, Mm2, k2, a1, a2, a3, a4, a5, a6, a7, a8, a9, a10⟩
        · have hFl : F.length ≤ i2 - (i + 1) := a10
          have hy2 : N - i2 < y ∧ y ≤ n3 ∧ m + 1 < i2 := by clear hr0 a15 stop; omega
          obtain ⟨Mc3, e1, e2, e3⟩ := a4.emit (q := (nI (chT T N i), 0)) (c := nI (chT T N i)) (v := 0) (by simp; omega) j2 rfl
          rw [a1, pcall, if_neg (by decide), e1, pcall, if_neg (by decide)]
          refine ih (m + 1) n3 i2 (k2 + 1 + k) (E ++ F ++ [(nI (chT T N i), 0)]) (E ++ F1) (pd ++ [chT T N i]) Mc3 Mm2 hy2.1 hy2.2.1 hy2.2.2 (fun hrz => Or.inr ⟨?_, chT T N i, by simp, by omega⟩) ((hfc1.tr a2).tr e2) ((hfm.tr b3).tr a3) ?_ ?_ ?_ (fun f => ?_) (by omega) (by omega) ?_ (wfA_bin hw a11 (by omega) j1) ((hok.app a12).app (okA_1 ⟨0, chT T N i, by omega, by omega, rfl, j2⟩)) ?_ ?_ (a15.1 (by omega)) ((hnn.tr (nn_1 j5 (by intro e; rw [e] at hj; exact absurd hj (by unfold stN; simp)))).tr a16)
          · rcases hr0 hrz with ⟨h1, _⟩ | ⟨h1, _⟩
            · omega
            · exact absurd ⟨hrz, h1⟩ hmost
          · simpa using e3
          · simpa using a5
          · rw [a6]; simp
          · rw [show f + (k2 + 1 + k) = f + k2 + 1 + k by omega, hG, b1]
            exact a7 f
          · simp; omega
          · intro x hx
            simp at hx
            rcases hx with hx | hx
            · have := a13 x hx; exact ⟨this.1, this.2.1, by omega⟩
            · subst hx; exact ⟨j3, j4, by omega⟩
          · simp; omega
        · rw [a1, pcall, if_pos rfl]
          refine Or.inr ⟨p, Mc2, Mm2, k2 + 1 + k, rfl, hfc1.tr a2, (hfm.tr b3).tr a3, a4, a5, by omega, fun f => ?_, a8, by clear a10; omega, a10⟩
          rw [show f + (k2 + 1 + k) + 1 = f + k2 + 1 + 1 + k by omega, hG, b1]
          exact a7 f
      · refine Or.inl (stop ⟨fun h => by omega, fun h => ⟨by omega, fun h1 => by omega⟩⟩ ?_)
        rw [r39_step]
        simp only [F_Rd_ranked_39_b, if_neg hne, c_peek hrc hc.2.1 hiN, pcall, c_joins hr (show chT T N i < 128 by omega), if_neg hj, if_true]

theorem k_r {S : zzS} {T : Nat → Nat} {N w q : Nat} {wh bg : Int32} {n r d : Nat} (hd : d ≤ 3) (hr : r < 3) (H : kP S T N w q wh bg n (r + 1) d) : kP S T N w q wh bg (n + 1) r d := by
  intro i ks σ Mc Mm hc hm hq hl hσ ht hwh h0
  have e : FD_Rd_ranked S (n + 1) Mc 23 (nI r) (nI d) = zzcall (FD_Rd_ranked S n Mc 23 (nI (r + 1)) (nI d)) fun r2 M => if r2 = 0 then (some ((0 : Int32), M)) else cR39 S n 2000 M 23 (nI r) (nI d) (if r = 0 then 1 else 400) (nI 0) := by
    rw [FDr_s, F_Rd_ranked, if_pos (show nI r ≤ (2 : Int32) from nI_le (b := 2) (by omega) (by omega)), plet, ← nI_succ]
    congr 1
    funext r2 M
    by_cases h2 : r2 = 0
    · rw [if_pos h2, if_pos h2]
    · rw [if_neg h2, if_neg h2]
      by_cases hz : r = 0
      · rw [if_pos hz, if_pos (by rw [hz]; rfl), nI_of_0]
      · rw [if_neg hz, if_neg (nI_ne0 (by omega) (by omega)), nI_of_0]
  rw [e]
  rcases H i ks σ Mc Mm hc hm hq (by omega) hσ (fun x s hx => ⟨by have := (ht x s hx).1; omega, (ht x s hx).2⟩) hwh (fun h => absurd h (by omega)) with ⟨i2, F, F1, pd, Mc2, Mm2, k2, a1, a2, a3, a4, a5, a6, a7, a8, a9, a10, a11, a12, a13, a14, a15, a16⟩ | ⟨p, Mc2, Mm2, k2, a1, a2, a3, a4, a5, a6, a7, a8, a9, a10⟩
  · rw [a1, pcall, if_neg (by decide)]
    exact k_loop hd hr H hq hl hσ ht hwh h0 (N - i2 + 1) 0 2000 i2 k2 F F1 pd Mc2 Mm2 (by omega) (by have := hc.1.2.2.2.2.1; omega) (by omega) (fun hz => Or.inl ⟨rfl, fun x hx => by have := (a13 x hx).2.2; omega⟩) a2 a3 a4 a5 a6 a7 a8 a9 a10 (a11.mo (by omega)) a12 (fun x hx => ⟨(a13 x hx).1, (a13 x hx).2.1, by have := (a13 x hx).2.2; omega⟩) (by omega) (a15.1 (by omega)) a16
  · rw [a1, pcall, if_pos rfl]
    exact Or.inr ⟨p, Mc2, Mm2, k2, rfl, a2, a3, a4, a5, a6, a7, a8, a9, a10⟩
