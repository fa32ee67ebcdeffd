/-- what the pure side gives: class and reference, call by call -/
def lwBase (Sc : zzS) : Prop := 62 < Sc.2.1 ∧ zzk Sc 0 = 10 ∧ zzk Sc 62 = 2 ∧ zzn Sc 62 = 1
def lwO_unit (Rel : zzS → zzM → zzM → Prop) (Sc : zzS) (Mc Mm : zzM) : Prop := (∀ u : Int32, ∃ r Mc1 Mm1, F_Bs_unit Sc Mc 0 u = some (r, Mc1) ∧ F_Md_unit lwSm Mm 28 u = some (r, Mm1) ∧ Rel Sc Mc1 Mm1)
def lwO_read (Rel : zzS → zzM → zzM → Prop) (Sc : zzS) (Mc Mm : zzM) : Prop := (∃ r S2 Mc1 Mm1, F_Bs_read Sc Mc 0 = some (r, S2, Mc1) ∧ F_Md_read lwSm Mm 28 = some (r, Mm1) ∧ zzle Sc S2 ∧ S2.2.1 ≤ Sc.2.1 + 1000 ∧ S2.2.2 ≤ Sc.2.2 + 4000 ∧ Rel S2 Mc1 Mm1)
def lwO_object (Rel : zzS → zzM → zzM → Prop) (Sc : zzS) (Mc Mm : zzM) : Prop := (∀ u : Int32, ∃ r Mc1 Mm1, F_Bs_object Sc Mc 0 u = some (r, Mc1) ∧ F_Md_object lwSm Mm 28 u = some (r, Mm1) ∧ Rel Sc Mc1 Mm1)
def lwO_field (Rel : zzS → zzM → zzM → Prop) (Sc : zzS) (Mc Mm : zzM) : Prop := (∀ (u v : Int32) (w : Int64), (∃ r Mc1 Mm1, F_Lw_field Sc Mc (some 0) u v w (some 62) = some (0, Mc1) ∧ F_Md_field lwSm Mm 28 u v w = some (r, Mm1) ∧ F_Md_thrown lwSm Mm1 28 = some (0, Mm1) ∧ zzL Mc1 62 0 = (if r = 0 then (0 : Int64) else 1) ∧ Rel Sc Mc1 Mm1) ∨ (∃ r Mc1 Mm1, FT_Bs_field Sc Mc 0 u v w = some ((), Mc1) ∧ F_Md_field lwSm Mm 28 u v w = some (r, Mm1) ∧ F_Md_thrown lwSm Mm1 28 = some (1, Mm1) ∧ Rel (zzjunk Sc) Mc1 Mm1))
def lwO_run (Rel : zzS → zzM → zzM → Prop) (Sc : zzS) (Mc Mm : zzM) : Prop := (∀ (u : Int64), (∃ r Mc1 Mm1, F_Lw_run Sc Mc (some 0) u (some 62) = some (0, Mc1) ∧ F_Md_run lwSm Mm 28 u = some (r, Mm1) ∧ F_Md_thrown lwSm Mm1 28 = some (0, Mm1) ∧ zzL Mc1 62 0 = r.toInt64 ∧ Rel Sc Mc1 Mm1) ∨ (∃ r Mc1 Mm1, FT_Bs_run Sc Mc 0 u = some ((), Mc1) ∧ F_Md_run lwSm Mm 28 u = some (r, Mm1) ∧ F_Md_thrown lwSm Mm1 28 = some (1, Mm1) ∧ Rel (zzjunk Sc) Mc1 Mm1))
def lwO_at (Rel : zzS → zzM → zzM → Prop) (Sc : zzS) (Mc Mm : zzM) : Prop := (∀ (u v : Int32), (∃ r Mc1 Mm1, F_Lw_at Sc Mc (some 0) u v (some 62) = some (0, Mc1) ∧ F_Md_at lwSm Mm 28 u v = some (r, Mm1) ∧ F_Md_thrown lwSm Mm1 28 = some (0, Mm1) ∧ zzL Mc1 62 0 = r ∧ Rel Sc Mc1 Mm1) ∨ (∃ r Mc1 Mm1, FT_Bs_at Sc Mc 0 u v = some ((), Mc1) ∧ F_Md_at lwSm Mm 28 u v = some (r, Mm1) ∧ F_Md_thrown lwSm Mm1 28 = some (1, Mm1) ∧ Rel (zzjunk Sc) Mc1 Mm1))
def lwO_query (Rel : zzS → zzM → zzM → Prop) (Sc : zzS) (Mc Mm : zzM) : Prop := (∀ u : Int32, ∃ r Mc1 Mm1, F_Bs_query Sc Mc 0 u = some (r, Mc1) ∧ F_Md_query lwSm Mm 28 u = some (r, Mm1) ∧ Rel Sc Mc1 Mm1)
def lwO_output (Rel : zzS → zzM → zzM → Prop) (Sc : zzS) (Mc Mm : zzM) : Prop := (∀ (u : Int32), (∃ r Mc1 Mm1, F_Lw_output Sc Mc (some 0) u (some 62) = some (0, Mc1) ∧ F_Md_output lwSm Mm 28 u = some (r, Mm1) ∧ F_Md_thrown lwSm Mm1 28 = some (0, Mm1) ∧ zzL Mc1 62 0 = r.toInt64 ∧ Rel Sc Mc1 Mm1) ∨ (∃ r Mc1 Mm1, FT_Bs_output Sc Mc 0 u = some ((), Mc1) ∧ F_Md_output lwSm Mm 28 u = some (r, Mm1) ∧ F_Md_thrown lwSm Mm1 28 = some (1, Mm1) ∧ Rel (zzjunk Sc) Mc1 Mm1))
def lwO_error (Rel : zzS → zzM → zzM → Prop) (Sc : zzS) (Mc Mm : zzM) : Prop := (∀ (u : Int32), (∃ r Mc1 Mm1, F_Lw_error Sc Mc (some 0) u (some 62) = some (0, Mc1) ∧ F_Md_error lwSm Mm 28 u = some (r, Mm1) ∧ F_Md_thrown lwSm Mm1 28 = some (0, Mm1) ∧ zzL Mc1 62 0 = r.toInt64 ∧ Rel Sc Mc1 Mm1) ∨ (∃ r Mc1 Mm1, FT_Bs_error Sc Mc 0 u = some ((), Mc1) ∧ F_Md_error lwSm Mm 28 u = some (r, Mm1) ∧ F_Md_thrown lwSm Mm1 28 = some (1, Mm1) ∧ Rel (zzjunk Sc) Mc1 Mm1))
def lwO_closed (Rel : zzS → zzM → zzM → Prop) (Sc : zzS) (Mc Mm : zzM) : Prop := (∀ u : Int32, ∃ r Mc1 Mm1, F_Bs_closed Sc Mc 0 u = some (r, Mc1) ∧ F_Md_closed lwSm Mm 28 u = some (r, Mm1) ∧ Rel Sc Mc1 Mm1)
def lwO_restored (Rel : zzS → zzM → zzM → Prop) (Sc : zzS) (Mc Mm : zzM) : Prop := (∃ r Mc1 Mm1, F_Bs_restored Sc Mc 0 = some (r, Mc1) ∧ F_Md_restored lwSm Mm 28 = some (r, Mm1) ∧ Rel Sc Mc1 Mm1)
def lwO_added (Rel : zzS → zzM → zzM → Prop) (Sc : zzS) (Mc Mm : zzM) : Prop := (∀ u : Int32, ∃ r Mc1 Mm1, F_Bs_added Sc Mc 0 u = some (r, Mc1) ∧ F_Md_added lwSm Mm 28 u = some (r, Mm1) ∧ Rel Sc Mc1 Mm1)
def lwO_steps (Rel : zzS → zzM → zzM → Prop) (Sc : zzS) (Mc Mm : zzM) : Prop := (∃ r Mc1 Mm1, F_Bs_steps Sc Mc 0 = some (r, Mc1) ∧ F_Md_steps lwSm Mm 28 = some (r, Mm1) ∧ Rel Sc Mc1 Mm1)
def lwO_failAt (Rel : zzS → zzM → zzM → Prop) (Sc : zzS) (Mc Mm : zzM) : Prop := (∀ u : Int32, ∃ r Mc1 Mm1, F_Bs_failAt Sc Mc 0 u = some (r, Mc1) ∧ F_Md_failAt lwSm Mm 28 u = some (r, Mm1) ∧ Rel Sc Mc1 Mm1)
def lwO_list (Rel : zzS → zzM → zzM → Prop) (Sc : zzS) (Mc Mm : zzM) : Prop := (∀ u : Int32, ∃ r Mc1 Mm1, F_Bs_list Sc Mc 0 u = some (r, Mc1) ∧ F_Md_list lwSm Mm 28 u = some (r, Mm1) ∧ Rel Sc Mc1 Mm1)
def lwO_line (Rel : zzS → zzM → zzM → Prop) (Sc : zzS) (Mc Mm : zzM) : Prop := (∃ r Mc1 Mm1, F_Bs_line Sc Mc 0 = some (r, Mc1) ∧ F_Md_line lwSm Mm 28 = some (r, Mm1) ∧ Rel Sc Mc1 Mm1)
def lwO_clear (Rel : zzS → zzM → zzM → Prop) (Sc : zzS) (Mc Mm : zzM) : Prop := (∃ Mc1 Mm1, F_Bs_clear Sc Mc 0 = some ((), Mc1) ∧ F_Md_clear lwSm Mm 28 = some ((), Mm1) ∧ Rel Sc Mc1 Mm1)
def lwOK (Rel : zzS → zzM → zzM → Prop) : Prop := ∀ Sc Mc Mm, Rel Sc Mc Mm → lwBase Sc ∧ lwO_unit Rel Sc Mc Mm ∧ lwO_read Rel Sc Mc Mm ∧ lwO_object Rel Sc Mc Mm ∧ lwO_field Rel Sc Mc Mm ∧ lwO_run Rel Sc Mc Mm ∧ lwO_at Rel Sc Mc Mm ∧ lwO_query Rel Sc Mc Mm ∧ lwO_output Rel Sc Mc Mm ∧ lwO_error Rel Sc Mc Mm ∧ lwO_closed Rel Sc Mc Mm ∧ lwO_restored Rel Sc Mc Mm ∧ lwO_added Rel Sc Mc Mm ∧ lwO_steps Rel Sc Mc Mm ∧ lwO_failAt Rel Sc Mc Mm ∧ lwO_list Rel Sc Mc Mm ∧ lwO_line Rel Sc Mc Mm ∧ lwO_clear Rel Sc Mc Mm
def lwX (bs : Nat) (adK adV sa : Nat → Nat) (U : State) : Prop := zzXF bs adK adV U ∧ zxW bs "BoardScript" 97 99 101 "java/lang/IndexOutOfBoundsException" "no such object or field" ["java/lang/RuntimeException", "java/lang/Exception"] (sa 0) U ∧ zxW bs "BoardScript" 110 112 114 "java/lang/IllegalArgumentException" "steps are not 1 to 300" ["java/lang/RuntimeException", "java/lang/Exception"] (sa 1) U ∧ zxW bs "BoardScript" 97 126 101 "java/lang/IndexOutOfBoundsException" "no such output" ["java/lang/RuntimeException", "java/lang/Exception"] (sa 2) U ∧ zxW bs "BoardScript" 97 145 101 "java/lang/IndexOutOfBoundsException" "an error has 0, 1 and 2" ["java/lang/RuntimeException", "java/lang/Exception"] (sa 3) U
theorem lw_sub5 {L : Nat} (h : 5 ≤ L) : (Int32.ofNat L) - 5 = nI (L - 5) := by
  have h1 : nI (L - 5) + nI 5 = nI L := by rw [nI_add]; congr 1; omega
  show nI L - nI 5 = nI (L - 5)
  rw [← h1, Int32.add_sub_cancel]
theorem lw_gt {L n : Nat} (hL : L ≤ 2560) (hn : n ≤ 3000) (h : ¬ n + 5 ≤ L) : (Int32.ofNat L) - 5 < nI n := by
  by_cases h5 : 5 ≤ L
  · rw [lw_sub5 h5]; exact nI_lt (by omega) (by omega)
  · have h0 : ∀ k, k < 5 → (Int32.ofNat k) - 5 < 0 := by decide
    have h1 := h0 L (by omega)
    have h2 := nI_pos' (n := n) (by omega)
    exact Int32.lt_of_lt_of_le h1 h2
theorem lw_ngt {L n : Nat} (hL : L ≤ 2560) (h : n + 5 ≤ L) : ¬ (Int32.ofNat L) - 5 < nI n := by
  rw [lw_sub5 (by omega)]; exact nI_nlt (by omega) (by omega)
set_option maxHeartbeats 4000000 in
set_option maxRecDepth 100000 in
theorem lw_loop {p : Program} {l : Launch} {e : Env} {s : State} {m : MethodId} {b : Nat} {below : List Frame} {meth : Method} {c : Code} {D : zzD} {bs : Nat} (C : lwK p s m b c D) (hbs : bs = s.heap.size) (hr : meth.sig.returnType = ret) (hlocks : meth.locks = false) (hl0 : l.stackTraces = false) {adK adV sa : Nat → Nat} (hXs : zzStab bs (lwX bs adK adV sa)) (hX : lwX bs adK adV sa s) {L : Nat} {xs : Nat → Int32} (hX0 : va_X b L xs s s.heap) (hbl : b < s.heap.size) (hL : L ≤ 2560) {Rel : zzS → zzM → zzM → Prop} (hOK : lwOK Rel) :
    ∀ (k n : Nat) (Sc : zzS) (Mc Mm : zzM), Rel Sc Mc Mm → L < n + 5 * (k + 1) → n ≤ 3000 → Sc.2.1 + 1000 * k ≤ 600000 → Sc.2.2 + 4000 * k ≤ 7000000 → lwB p l e s m b below meth c (lwP D bs Sc Mc lwSm Mm) Sc.2.1 Sc.2.2 23 [(4, .int (nI n)), (3, .ref (bs + 62)), (2, .ref (bs + 28)), (1, .ref (bs + 0)), (0, .ref b)] [] := by
  intro k
  induction k with
  | zero =>
    intro n Sc Mc Mm hR hLn hn3 hc1 hc2
    refine li_iload C d_Lw_law_23 0 rfl ?_
    refine li_aload_n C d_Lw_law_25 rfl 4 rfl ?_
    refine li_slen C hX0 hbl d_Lw_law_26 ?_
    refine li_iconst (v := 5) C d_Lw_law_27 (by decide) ?_
    refine li_isub C d_Lw_law_28 rfl ?_
    refine li_icmpgtT (tgt := 751) C d_Lw_law_29 (by decide) (lw_gt hL hn3 (by omega)) ?_
    refine li_iconst (v := 1) C d_Lw_law_751 (by decide) ?_
    intro H locs ls hP hS hl
    exact va_forget hS.2.2 (W.widen (by omega) (by omega) (lw_ret C.1 C.2.1 hr hlocks d_Lw_law_752))
  | succ k ih =>
    intro n Sc Mc Mm hR hLn hn3 hc1 hc2
    refine li_iload C d_Lw_law_23 0 rfl ?_
    refine li_aload_n C d_Lw_law_25 rfl 4 rfl ?_
    refine li_slen C hX0 hbl d_Lw_law_26 ?_
    refine li_iconst (v := 5) C d_Lw_law_27 (by decide) ?_
    refine li_isub C d_Lw_law_28 rfl ?_
    by_cases hn5 : n + 5 ≤ L
    · refine li_icmpgtF (tgt := 751) C d_Lw_law_29 (by decide) (lw_ngt hL hn5) ?_
      refine li_aload_n C d_Lw_law_32 rfl 4 rfl ?_
      refine li_iload C d_Lw_law_33 0 rfl ?_
      refine li_sld C hX0 hbl (nI_in (N := L) (c := n) (by omega) (by omega)) (v := xs n) (by rw [nI_clamp (by omega)]) d_Lw_law_35 ?_
      obtain ⟨⟨ho, hk0, hko, hno⟩, q0, q1, q2, q3, q4, q5, q6, q7, q8, q9, q10, q11, q12, q13, q14, q15, q16⟩ := hOK Sc Mc Mm hR
      have hb0 : 0 < Sc.2.1 := by omega
      have hroom : Sc.2.1 ≤ 601024 ∧ Sc.2.2 ≤ 7293034 := ⟨by omega, by omega⟩
      have hA : ∀ q : Nat, bs + Sc.2.1 ≤ q → lwAc bs q := fun q hq => ⟨by omega, fun h => by omega⟩
      have hAb : ∀ q : Nat, lwAc bs q → bs ≤ q := fun q h => h.1
      have cont : ∀ (S1 : zzS) (M1 M2 : zzM), Rel S1 M1 M2 → S1.2.1 + 1000 * k ≤ 600000 → S1.2.2 + 4000 * k ≤ 7000000 → lwB p l e s m b below meth c (lwP D bs S1 M1 lwSm M2) S1.2.1 S1.2.2 745 [(4, .int (nI n)), (3, .ref (bs + 62)), (2, .ref (bs + 28)), (1, .ref (bs + 0)), (0, .ref b)] [] := by
        intro S1 M1 M2 h1 h2 h3
        refine li_iinc (k := 0) (lv' := [(4, .int (nI (n + 5))), (3, .ref (bs + 62)), (2, .ref (bs + 28)), (1, .ref (bs + 0)), (0, .ref b)]) C d_Lw_law_745 rfl (by rw [← nI_add]; rfl) (by decide) rfl ?_
        refine li_goto (tgt := 23) C d_Lw_law_748 (by decide) ?_
        exact ih (n + 5) S1 M1 M2 h1 (by omega) (by omega) h2 h3
      refine li_bipush (v := 31) C d_Lw_law_36 (by decide) ?_
      refine li_iand C d_Lw_law_38 rfl ?_
      generalize hx : xs n &&& 31 = x
      by_cases h0 : x = (0 : Int32)
      · refine li_tIn C d_Lw_law_39 81 120 (by rw [h0]; decide) (by rw [h0]; decide) (by rw [h0]; decide +kernel) (by decide) ?_
        obtain ⟨r, Mc1, Mm1, e1, e2, e3⟩ := q0 (xs (n + 1))
        exact lwc_unit C hbs hX0 hbl hL hn5 hroom hb0 hk0 e1 e2 (cont _ _ _ e3 (by omega) (by omega))
      by_cases h1 : x = (1 : Int32)
      · refine li_tIn C d_Lw_law_39 106 145 (by rw [h1]; decide) (by rw [h1]; decide) (by rw [h1]; decide +kernel) (by decide) ?_
        obtain ⟨r, S2, Mc1, Mm1, e1, e2, e4, e5, e6, e3⟩ := q1
        exact lwc_read C hbs hX0 hbl hL hn5 hroom hb0 hk0 hXs hX hA hAb (fun U h => h.1) e4 ⟨by omega, by omega⟩ e1 e2 (cont _ _ _ e3 (by omega) (by omega))
      by_cases h2 : x = (2 : Int32)
      · refine li_tIn C d_Lw_law_39 119 158 (by rw [h2]; decide) (by rw [h2]; decide) (by rw [h2]; decide +kernel) (by decide) ?_
        obtain ⟨r, Mc1, Mm1, e1, e2, e3⟩ := q2 (xs (n + 1))
        exact lwc_object C hbs hX0 hbl hL hn5 hroom hb0 hk0 e1 e2 (cont _ _ _ e3 (by omega) (by omega))
      by_cases h3 : x = (3 : Int32)
      · refine li_tIn C d_Lw_law_39 144 183 (by rw [h3]; decide) (by rw [h3]; decide) (by rw [h3]; decide +kernel) (by decide) ?_
        rcases q3 (xs (n + 1)) (xs (n + 2)) (lwLong (xs (n + 3)) (xs (n + 4))) with ⟨r, Mc1, Mm1, e1, e2, e4, e5, e3⟩ | ⟨r, Mc1, Mm1, e1, e2, e4, e3⟩
        · exact lwc_field C hbs hX0 hbl hL hn5 hroom hb0 hk0 hXs hX ho hko hno e1 e2 e4 e5 (cont _ _ _ e3 (by omega) (by omega))
        · exact lwcT_field C hbs hX0 hbl hL hn5 hroom hb0 hk0 hXs hX (sa := sa 0) hl0 hA hAb ⟨by omega, by omega⟩ (fun U h => h.2.1) e1 e2 e4 (cont _ _ _ e3 (by show Sc.2.1 + 1 + _ ≤ _; omega) (by show Sc.2.2 + 6 + _ ≤ _; omega))
      by_cases h4 : x = (4 : Int32)
      · refine li_tIn C d_Lw_law_39 263 302 (by rw [h4]; decide) (by rw [h4]; decide) (by rw [h4]; decide +kernel) (by decide) ?_
        rcases q4 (lwLong (xs (n + 1)) (xs (n + 2))) with ⟨r, Mc1, Mm1, e1, e2, e4, e5, e3⟩ | ⟨r, Mc1, Mm1, e1, e2, e4, e3⟩
        · exact lwc_run C hbs hX0 hbl hL hn5 hroom hb0 hk0 hXs hX ho hko hno e1 e2 e4 e5 (cont _ _ _ e3 (by omega) (by omega))
        · exact lwcT_run C hbs hX0 hbl hL hn5 hroom hb0 hk0 hXs hX (sa := sa 1) hl0 hA hAb ⟨by omega, by omega⟩ (fun U h => h.2.2.1) e1 e2 e4 (cont _ _ _ e3 (by show Sc.2.1 + 1 + _ ≤ _; omega) (by show Sc.2.2 + 6 + _ ≤ _; omega))
      by_cases h5 : x = (5 : Int32)
      · refine li_tIn C d_Lw_law_39 351 390 (by rw [h5]; decide) (by rw [h5]; decide) (by rw [h5]; decide +kernel) (by decide) ?_
        rcases q5 (xs (n + 1)) (xs (n + 2)) with ⟨r, Mc1, Mm1, e1, e2, e4, e5, e3⟩ | ⟨r, Mc1, Mm1, e1, e2, e4, e3⟩
        · exact lwc_at C hbs hX0 hbl hL hn5 hroom hb0 hk0 hXs hX ho hko hno e1 e2 e4 e5 (cont _ _ _ e3 (by omega) (by omega))
        · exact lwcT_at C hbs hX0 hbl hL hn5 hroom hb0 hk0 hXs hX (sa := sa 0) hl0 hA hAb ⟨by omega, by omega⟩ (fun U h => h.2.1) e1 e2 e4 (cont _ _ _ e3 (by show Sc.2.1 + 1 + _ ≤ _; omega) (by show Sc.2.2 + 6 + _ ≤ _; omega))
      by_cases h6 : x = (6 : Int32)
      · refine li_tIn C d_Lw_law_39 418 457 (by rw [h6]; decide) (by rw [h6]; decide) (by rw [h6]; decide +kernel) (by decide) ?_
        obtain ⟨r, Mc1, Mm1, e1, e2, e3⟩ := q6 (xs (n + 1))
        exact lwc_query C hbs hX0 hbl hL hn5 hroom hb0 hk0 e1 e2 (cont _ _ _ e3 (by omega) (by omega))
      by_cases h7 : x = (7 : Int32)
      · refine li_tIn C d_Lw_law_39 443 482 (by rw [h7]; decide) (by rw [h7]; decide) (by rw [h7]; decide +kernel) (by decide) ?_
        rcases q7 (xs (n + 1)) with ⟨r, Mc1, Mm1, e1, e2, e4, e5, e3⟩ | ⟨r, Mc1, Mm1, e1, e2, e4, e3⟩
        · exact lwc_output C hbs hX0 hbl hL hn5 hroom hb0 hk0 hXs hX ho hko hno e1 e2 e4 e5 (cont _ _ _ e3 (by omega) (by omega))
        · exact lwcT_output C hbs hX0 hbl hL hn5 hroom hb0 hk0 hXs hX (sa := sa 2) hl0 hA hAb ⟨by omega, by omega⟩ (fun U h => h.2.2.2.1) e1 e2 e4 (cont _ _ _ e3 (by show Sc.2.1 + 1 + _ ≤ _; omega) (by show Sc.2.2 + 6 + _ ≤ _; omega))
      by_cases h8 : x = (8 : Int32)
      · refine li_tIn C d_Lw_law_39 499 538 (by rw [h8]; decide) (by rw [h8]; decide) (by rw [h8]; decide +kernel) (by decide) ?_
        rcases q8 (xs (n + 1)) with ⟨r, Mc1, Mm1, e1, e2, e4, e5, e3⟩ | ⟨r, Mc1, Mm1, e1, e2, e4, e3⟩
        · exact lwc_error C hbs hX0 hbl hL hn5 hroom hb0 hk0 hXs hX ho hko hno e1 e2 e4 e5 (cont _ _ _ e3 (by omega) (by omega))
        · exact lwcT_error C hbs hX0 hbl hL hn5 hroom hb0 hk0 hXs hX (sa := sa 3) hl0 hA hAb ⟨by omega, by omega⟩ (fun U h => h.2.2.2.2) e1 e2 e4 (cont _ _ _ e3 (by show Sc.2.1 + 1 + _ ≤ _; omega) (by show Sc.2.2 + 6 + _ ≤ _; omega))
      by_cases h9 : x = (9 : Int32)
      · refine li_tIn C d_Lw_law_39 555 594 (by rw [h9]; decide) (by rw [h9]; decide) (by rw [h9]; decide +kernel) (by decide) ?_
        obtain ⟨r, Mc1, Mm1, e1, e2, e3⟩ := q9 (xs (n + 1))
        exact lwc_closed C hbs hX0 hbl hL hn5 hroom hb0 hk0 e1 e2 (cont _ _ _ e3 (by omega) (by omega))
      by_cases h10 : x = (10 : Int32)
      · refine li_tIn C d_Lw_law_39 580 619 (by rw [h10]; decide) (by rw [h10]; decide) (by rw [h10]; decide +kernel) (by decide) ?_
        obtain ⟨r, Mc1, Mm1, e1, e2, e3⟩ := q10
        exact lwc_restored C hbs hX0 hbl hL hn5 hroom hb0 hk0 e1 e2 (cont _ _ _ e3 (by omega) (by omega))
      by_cases h11 : x = (11 : Int32)
      · refine li_tIn C d_Lw_law_39 593 632 (by rw [h11]; decide) (by rw [h11]; decide) (by rw [h11]; decide +kernel) (by decide) ?_
        obtain ⟨r, Mc1, Mm1, e1, e2, e3⟩ := q11 (xs (n + 1))
        exact lwc_added C hbs hX0 hbl hL hn5 hroom hb0 hk0 e1 e2 (cont _ _ _ e3 (by omega) (by omega))
      by_cases h12 : x = (12 : Int32)
      · refine li_tIn C d_Lw_law_39 618 657 (by rw [h12]; decide) (by rw [h12]; decide) (by rw [h12]; decide +kernel) (by decide) ?_
        obtain ⟨r, Mc1, Mm1, e1, e2, e3⟩ := q12
        exact lwc_steps C hbs hX0 hbl hL hn5 hroom hb0 hk0 e1 e2 (cont _ _ _ e3 (by omega) (by omega))
      by_cases h13 : x = (13 : Int32)
      · refine li_tIn C d_Lw_law_39 632 671 (by rw [h13]; decide) (by rw [h13]; decide) (by rw [h13]; decide +kernel) (by decide) ?_
        obtain ⟨r, Mc1, Mm1, e1, e2, e3⟩ := q13 (xs (n + 1))
        exact lwc_failAt C hbs hX0 hbl hL hn5 hroom hb0 hk0 e1 e2 (cont _ _ _ e3 (by omega) (by omega))
      by_cases h14 : x = (14 : Int32)
      · refine li_tIn C d_Lw_law_39 657 696 (by rw [h14]; decide) (by rw [h14]; decide) (by rw [h14]; decide +kernel) (by decide) ?_
        obtain ⟨r, Mc1, Mm1, e1, e2, e3⟩ := q14 (xs (n + 1))
        exact lwc_list C hbs hX0 hbl hL hn5 hroom hb0 hk0 e1 e2 (cont _ _ _ e3 (by omega) (by omega))
      by_cases h15 : x = (15 : Int32)
      · refine li_tIn C d_Lw_law_39 682 721 (by rw [h15]; decide) (by rw [h15]; decide) (by rw [h15]; decide +kernel) (by decide) ?_
        obtain ⟨r, Mc1, Mm1, e1, e2, e3⟩ := q15
        exact lwc_line C hbs hX0 hbl hL hn5 hroom hb0 hk0 e1 e2 (cont _ _ _ e3 (by omega) (by omega))
      by_cases h16 : x = (16 : Int32)
      · refine li_tIn C d_Lw_law_39 695 734 (by rw [h16]; decide) (by rw [h16]; decide) (by rw [h16]; decide +kernel) (by decide) ?_
        obtain ⟨Mc1, Mm1, e1, e2, e3⟩ := q16
        exact lwc_clear C hbs hX0 hbl hL hn5 hroom hb0 hk0 e1 e2 (cont _ _ _ e3 (by omega) (by omega))
      have hne : x.toInt ≠ 0 ∧ x.toInt ≠ 1 ∧ x.toInt ≠ 2 ∧ x.toInt ≠ 3 ∧ x.toInt ≠ 4 ∧ x.toInt ≠ 5 ∧ x.toInt ≠ 6 ∧ x.toInt ≠ 7 ∧ x.toInt ≠ 8 ∧ x.toInt ≠ 9 ∧ x.toInt ≠ 10 ∧ x.toInt ≠ 11 ∧ x.toInt ≠ 12 ∧ x.toInt ≠ 13 ∧ x.toInt ≠ 14 ∧ x.toInt ≠ 15 ∧ x.toInt ≠ 16 := ⟨zz_ne h0 (by decide), zz_ne h1 (by decide), zz_ne h2 (by decide), zz_ne h3 (by decide), zz_ne h4 (by decide), zz_ne h5 (by decide), zz_ne h6 (by decide), zz_ne h7 (by decide), zz_ne h8 (by decide), zz_ne h9 (by decide), zz_ne h10 (by decide), zz_ne h11 (by decide), zz_ne h12 (by decide), zz_ne h13 (by decide), zz_ne h14 (by decide), zz_ne h15 (by decide), zz_ne h16 (by decide)⟩
      refine li_tOut C d_Lw_law_39 745 (by omega) (by decide) ?_
      exact cont _ _ _ hR (by omega) (by omega)
    · refine li_icmpgtT (tgt := 751) C d_Lw_law_29 (by decide) (lw_gt hL hn3 hn5) ?_
      refine li_iconst (v := 1) C d_Lw_law_751 (by decide) ?_
      intro H locs ls hP hS hl
      exact va_forget hS.2.2 (W.widen (by omega) (by omega) (lw_ret C.1 C.2.1 hr hlocks d_Lw_law_752))
