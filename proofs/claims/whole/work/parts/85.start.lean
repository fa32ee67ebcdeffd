theorem lw_tz {args : Array Value} {s : State} (hts : ∀ w ∈ lw_tbl, w.before args s = true) : ∀ w ∈ zzW, w.before args s = true := fun w hw => hts w (List.mem_filter.mp hw).1
theorem lw_arrT {s : State} {cA comp : ClassId} {kA : Class} {ty : FieldType} (h2 : s.vm.classes[cA]? = some kA) (h3 : kA.kind = .array comp ty) : ArrOfT s cA ty := fun n z => ⟨fun k h => (by cases h), kA, h2, comp, h3⟩
set_option maxRecDepth 100000 in
theorem lw_D {args : Array Value} {s : State} (hts : ∀ w ∈ lw_tbl, w.before args s = true) : ∃ D : zzD, zzK D s := by
  have hw := lw_tz hts
  obtain ⟨c0, i0, hK0⟩ := u_known (C := "BoardScript") (T := zT0) (N := 10) (n := 10) hw zc_0.2.1 (hw _ zw_818)
  obtain ⟨c1, i1, hK1⟩ := u_known (C := "BoardScript$Script") (T := zT1) (N := 3) (n := 3) hw zc_1.2.1 (hw _ zw_580)
  obtain ⟨c2, i2, hK2⟩ := u_known (C := "BoardScript$Block") (T := zT2) (N := 2) (n := 2) hw zc_2.2.1 (hw _ zw_578)
  obtain ⟨c3, i3, hK3⟩ := u_known (C := "BoardScript$Statement") (T := zT3) (N := 9) (n := 9) hw zc_3.2.1 (hw _ zw_592)
  obtain ⟨c4, i4, hK4⟩ := u_known (C := "BoardScript$Board") (T := zT4) (N := 6) (n := 6) hw zc_4.2.1 (hw _ zw_575)
  obtain ⟨c5, i5, hK5⟩ := u_known (C := "BoardScript$Reckoner") (T := zT5) (N := 5) (n := 5) hw zc_5.2.1 (hw _ zw_573)
  obtain ⟨c6, i6, hK6⟩ := u_known (C := "BoardScript$Report") (T := zT6) (N := 12) (n := 12) hw zc_6.2.1 (hw _ zw_571)
  obtain ⟨c7, i7, hK7⟩ := u_known (C := "BoardScript$Reader") (T := zT7) (N := 8) (n := 8) hw zc_7.2.1 (hw _ zw_569)
  obtain ⟨c8, i8, hK8⟩ := u_known (C := "BoardScript$Walk") (T := zT8) (N := 7) (n := 7) hw zc_8.2.1 (hw _ zw_567)
  obtain ⟨c9, i9, hK9⟩ := u_known (C := "BoardScriptModel") (T := zT9) (N := 67) (n := 67) hw zc_9.2.1 (hw _ zw_819)
  obtain ⟨a1, k1, p1, e1, f1, g1⟩ := Cond.arrayClass_spec (hw _ zw_536)
  obtain ⟨a2, k2, p2, e2, f2, g2⟩ := Cond.arrayClass_spec (hw _ zw_538)
  obtain ⟨a3, k3, p3, e3, f3, g3⟩ := Cond.arrayClass_spec (hw _ zw_544)
  obtain ⟨p4, a4, k4, e4, -, f4, g4, j4⟩ := Cond.arrayOver_spec (hts (.arrayOver (.object "BoardScript$Statement")) (by decide +kernel))
  obtain ⟨p5, a5, k5, e5, f5, g5, j5⟩ := Cond.arrayOver_specA (hts (.arrayOver (.array .long)) (by decide +kernel))
  refine ⟨(fun ci => if ci = 0 then c0 else if ci = 1 then c1 else if ci = 2 then c2 else if ci = 3 then c3 else if ci = 4 then c4 else if ci = 5 then c5 else if ci = 6 then c6 else if ci = 7 then c7 else if ci = 8 then c8 else c9, fun ci => if ci = 0 then i0 else if ci = 1 then i1 else if ci = 2 then i2 else if ci = 3 then i3 else if ci = 4 then i4 else if ci = 5 then i5 else if ci = 6 then i6 else if ci = 7 then i7 else if ci = 8 then i8 else i9, fun t => if t = 1 then a1 else if t = 2 then a2 else if t = 3 then a3 else if t = 4 then a4 else a5), ?_, ?_⟩
  · intro ci q hq
    match ci, hq with
    | 0, hq => cases hq; exact hK0
    | 1, hq => cases hq; exact hK1
    | 2, hq => cases hq; exact hK2
    | 3, hq => cases hq; exact hK3
    | 4, hq => cases hq; exact hK4
    | 5, hq => cases hq; exact hK5
    | 6, hq => cases hq; exact hK6
    | 7, hq => cases hq; exact hK7
    | 8, hq => cases hq; exact hK8
    | 9, hq => cases hq; exact hK9
    | k + 10, hq => simp [vwCl] at hq
  · intro t h1 h2
    rcases (show t = 1 ∨ t = 2 ∨ t = 3 ∨ t = 4 ∨ t = 5 by omega) with rfl | rfl | rfl | rfl | rfl
    · exact ⟨lw_arrT f1 g1, e1⟩
    · exact ⟨lw_arrT f2 g2, e2⟩
    · exact ⟨lw_arrT f3 g3, e3⟩
    · exact ⟨lw_arrT f4 g4, k4, p4, f4, g4, e4, j4⟩
    · exact ⟨lw_arrT f5 g5, j5⟩
abbrev lw_g : Cond := Jvm.Cond.and given_1 narrow_1
def lw_tm (i : Nat) : Term := .string "BoardScript$Reader" (zzsk.getD i 0)
set_option maxRecDepth 100000 in
theorem lw_m0 : ∀ i : Nat, i < 11 → Cond.exactly (lw_tm i) "java/lang/String" ∈ flatC lw_g := by decide +kernel
set_option maxRecDepth 100000 in
theorem lw_m1 : ∀ i : Nat, i < 11 → Cond.eq (.field (lw_tm i) "java/lang/String" "coder" "B") (.int 0) ∈ flatC lw_g := by decide +kernel
set_option maxRecDepth 100000 in
theorem lw_m2 : ∀ i : Nat, i < 11 → Cond.arrayOf (.field (lw_tm i) "java/lang/String" "value" "[B") .byte ∈ flatC lw_g := by decide +kernel
set_option maxRecDepth 100000 in
theorem lw_m3 : ∀ i : Nat, i < 11 → Cond.eq (.length (.field (lw_tm i) "java/lang/String" "value" "[B")) (.int (Int32.ofNat (zzsn.getD i 0))) ∈ flatC lw_g := by decide +kernel
set_option maxRecDepth 100000 in
theorem lw_m4 : ∀ i : Nat, i < 11 → ∀ j : Nat, j < zzsn.getD i 0 → Cond.eq (.elem (.field (lw_tm i) "java/lang/String" "value" "[B") (.int (Int32.ofNat j))) (.int ((zzsy.getD i []).getD j 0)) ∈ flatC lw_g := by decide +kernel
set_option maxRecDepth 100000 in
theorem lw_m5_0 : ∀ j : Nat, j < 11 → 0 ≠ j → (Cond.not (Cond.eq (lw_tm 0) (lw_tm j)) ∈ flatC lw_g ∨ Cond.not (Cond.eq (lw_tm j) (lw_tm 0)) ∈ flatC lw_g) := by decide +kernel
set_option maxRecDepth 100000 in
theorem lw_m5_1 : ∀ j : Nat, j < 11 → 1 ≠ j → (Cond.not (Cond.eq (lw_tm 1) (lw_tm j)) ∈ flatC lw_g ∨ Cond.not (Cond.eq (lw_tm j) (lw_tm 1)) ∈ flatC lw_g) := by decide +kernel
set_option maxRecDepth 100000 in
theorem lw_m5_2 : ∀ j : Nat, j < 11 → 2 ≠ j → (Cond.not (Cond.eq (lw_tm 2) (lw_tm j)) ∈ flatC lw_g ∨ Cond.not (Cond.eq (lw_tm j) (lw_tm 2)) ∈ flatC lw_g) := by decide +kernel
set_option maxRecDepth 100000 in
theorem lw_m5_3 : ∀ j : Nat, j < 11 → 3 ≠ j → (Cond.not (Cond.eq (lw_tm 3) (lw_tm j)) ∈ flatC lw_g ∨ Cond.not (Cond.eq (lw_tm j) (lw_tm 3)) ∈ flatC lw_g) := by decide +kernel
set_option maxRecDepth 100000 in
theorem lw_m5_4 : ∀ j : Nat, j < 11 → 4 ≠ j → (Cond.not (Cond.eq (lw_tm 4) (lw_tm j)) ∈ flatC lw_g ∨ Cond.not (Cond.eq (lw_tm j) (lw_tm 4)) ∈ flatC lw_g) := by decide +kernel
set_option maxRecDepth 100000 in
theorem lw_m5_5 : ∀ j : Nat, j < 11 → 5 ≠ j → (Cond.not (Cond.eq (lw_tm 5) (lw_tm j)) ∈ flatC lw_g ∨ Cond.not (Cond.eq (lw_tm j) (lw_tm 5)) ∈ flatC lw_g) := by decide +kernel
set_option maxRecDepth 100000 in
theorem lw_m5_6 : ∀ j : Nat, j < 11 → 6 ≠ j → (Cond.not (Cond.eq (lw_tm 6) (lw_tm j)) ∈ flatC lw_g ∨ Cond.not (Cond.eq (lw_tm j) (lw_tm 6)) ∈ flatC lw_g) := by decide +kernel
set_option maxRecDepth 100000 in
theorem lw_m5_7 : ∀ j : Nat, j < 11 → 7 ≠ j → (Cond.not (Cond.eq (lw_tm 7) (lw_tm j)) ∈ flatC lw_g ∨ Cond.not (Cond.eq (lw_tm j) (lw_tm 7)) ∈ flatC lw_g) := by decide +kernel
set_option maxRecDepth 100000 in
theorem lw_m5_8 : ∀ j : Nat, j < 11 → 8 ≠ j → (Cond.not (Cond.eq (lw_tm 8) (lw_tm j)) ∈ flatC lw_g ∨ Cond.not (Cond.eq (lw_tm j) (lw_tm 8)) ∈ flatC lw_g) := by decide +kernel
set_option maxRecDepth 100000 in
theorem lw_m5_9 : ∀ j : Nat, j < 11 → 9 ≠ j → (Cond.not (Cond.eq (lw_tm 9) (lw_tm j)) ∈ flatC lw_g ∨ Cond.not (Cond.eq (lw_tm j) (lw_tm 9)) ∈ flatC lw_g) := by decide +kernel
set_option maxRecDepth 100000 in
theorem lw_m5_10 : ∀ j : Nat, j < 11 → 10 ≠ j → (Cond.not (Cond.eq (lw_tm 10) (lw_tm j)) ∈ flatC lw_g ∨ Cond.not (Cond.eq (lw_tm j) (lw_tm 10)) ∈ flatC lw_g) := by decide +kernel
set_option maxRecDepth 100000 in
theorem lw_m5 : ∀ i : Nat, i < 11 → ∀ j : Nat, j < 11 → i ≠ j → (Cond.not (Cond.eq (lw_tm i) (lw_tm j)) ∈ flatC lw_g ∨ Cond.not (Cond.eq (lw_tm j) (lw_tm i)) ∈ flatC lw_g) := by
  intro i hi
  rcases (show i = 0 ∨ i = 1 ∨ i = 2 ∨ i = 3 ∨ i = 4 ∨ i = 5 ∨ i = 6 ∨ i = 7 ∨ i = 8 ∨ i = 9 ∨ i = 10 by omega) with rfl | rfl | rfl | rfl | rfl | rfl | rfl | rfl | rfl | rfl | rfl
  · exact lw_m5_0
  · exact lw_m5_1
  · exact lw_m5_2
  · exact lw_m5_3
  · exact lw_m5_4
  · exact lw_m5_5
  · exact lw_m5_6
  · exact lw_m5_7
  · exact lw_m5_8
  · exact lw_m5_9
  · exact lw_m5_10
set_option maxRecDepth 100000 in
theorem lw_m6 : ∀ i : Nat, i < 11 → Cond.stringRef "BoardScript$Reader" (zzsk.getD i 0) (zzsx.getD i "") ∈ lw_tbl := by decide +kernel
theorem lw_zxL {args : Array Value} {s : State} {C n d : String} (hl : (Cond.laysStatic C n d).before args s = true) (hi : (Cond.initialized C).before args s = true) (hr : (Cond.isRef (.static C n d)).before args s = true) : zxL C n d s.heap.size s s.heap := by
  obtain ⟨c, k, i, f, a, cell, h1, h2, h3, h4, h5, h6, h7, h8, h9⟩ := Cond.laysStatic_spec hl
  exact ⟨va_Zqof hl hi hr (fun a h => Nat.not_le.mpr h), c, k, i, f, a, cell, h1, h2, h3, h4, h5, h6, h7, h8, h9, (Array.getElem?_eq_some_iff.mp h5).1⟩
theorem lw_zxW {args : Array Value} {s : State} {own cls tx : String} {ik is_ ic : Nat} {names : List String} (hts : ∀ w ∈ lw_tbl, w.before args s = true) (hU : zxL Bundle.tN "UNASSIGNED_STACK" Bundle.steD s.heap.size s s.heap) (hN : zxL Bundle.tN "SUPPRESSED_SENTINEL" Bundle.listD s.heap.size s s.heap)
    (hin : ∀ w ∈ Cond.classLink own ik cls :: Cond.initialized cls :: (Bundle.ownAtoms own ic cls names).filter zxno, w ∈ lw_tbl) (hgood : ∀ w ∈ Cond.classLink own ik cls :: Cond.initialized cls :: (Bundle.ownAtoms own ic cls names).filter zxno, (w.onTables || goodWord w) = true)
    (hs : Cond.stringRef own is_ tx ∈ lw_tbl) (he : (Cond.exactly (.string own is_) "java/lang/String").before args s = true) : ∃ sa : Nat, zxW s.heap.size own ik is_ ic cls tx names sa s := by
  obtain ⟨a, c, cA, kA, q1, -⟩ := Cond.exactly_spec (args := args) (first := s) (o := none) (s := s) (idx := []) he
  refine ⟨a, fun w hw => ?_, vk_R.of (hts _ hs) q1, hU, hN⟩
  have hg := hgood w hw
  simp only [Bool.or_eq_true] at hg
  rcases hg with hg | hg
  · exact va_tabs hg rfl (hts w (hin w hw))
  · exact word_at (State.WarmedH.refl s) (good_of_word hg) (hts w (hin w hw))
set_option maxRecDepth 100000 in
theorem lw_w0a : ∀ w ∈ Cond.classLink "BoardScript" 97 "java/lang/IndexOutOfBoundsException" :: Cond.initialized "java/lang/IndexOutOfBoundsException" :: (Bundle.ownAtoms "BoardScript" 101 "java/lang/IndexOutOfBoundsException" ["java/lang/RuntimeException", "java/lang/Exception"]).filter zxno, w ∈ lw_tbl := by decide +kernel
set_option maxRecDepth 100000 in
theorem lw_w0b : ∀ w ∈ Cond.classLink "BoardScript" 97 "java/lang/IndexOutOfBoundsException" :: Cond.initialized "java/lang/IndexOutOfBoundsException" :: (Bundle.ownAtoms "BoardScript" 101 "java/lang/IndexOutOfBoundsException" ["java/lang/RuntimeException", "java/lang/Exception"]).filter zxno, (w.onTables || goodWord w) = true := by decide +kernel
set_option maxRecDepth 100000 in
theorem lw_w0c : Cond.stringRef "BoardScript" 99 "no such object or field" ∈ lw_tbl := by decide +kernel
set_option maxRecDepth 100000 in
theorem lw_w0d : Cond.exactly (.string "BoardScript" 99) "java/lang/String" ∈ flatC lw_g := by decide +kernel
set_option maxRecDepth 100000 in
theorem lw_w1a : ∀ w ∈ Cond.classLink "BoardScript" 110 "java/lang/IllegalArgumentException" :: Cond.initialized "java/lang/IllegalArgumentException" :: (Bundle.ownAtoms "BoardScript" 114 "java/lang/IllegalArgumentException" ["java/lang/RuntimeException", "java/lang/Exception"]).filter zxno, w ∈ lw_tbl := by decide +kernel
set_option maxRecDepth 100000 in
theorem lw_w1b : ∀ w ∈ Cond.classLink "BoardScript" 110 "java/lang/IllegalArgumentException" :: Cond.initialized "java/lang/IllegalArgumentException" :: (Bundle.ownAtoms "BoardScript" 114 "java/lang/IllegalArgumentException" ["java/lang/RuntimeException", "java/lang/Exception"]).filter zxno, (w.onTables || goodWord w) = true := by decide +kernel
set_option maxRecDepth 100000 in
theorem lw_w1c : Cond.stringRef "BoardScript" 112 "steps are not 1 to 300" ∈ lw_tbl := by decide +kernel
set_option maxRecDepth 100000 in
theorem lw_w1d : Cond.exactly (.string "BoardScript" 112) "java/lang/String" ∈ flatC lw_g := by decide +kernel
set_option maxRecDepth 100000 in
theorem lw_w2a : ∀ w ∈ Cond.classLink "BoardScript" 97 "java/lang/IndexOutOfBoundsException" :: Cond.initialized "java/lang/IndexOutOfBoundsException" :: (Bundle.ownAtoms "BoardScript" 101 "java/lang/IndexOutOfBoundsException" ["java/lang/RuntimeException", "java/lang/Exception"]).filter zxno, w ∈ lw_tbl := by decide +kernel
set_option maxRecDepth 100000 in
theorem lw_w2b : ∀ w ∈ Cond.classLink "BoardScript" 97 "java/lang/IndexOutOfBoundsException" :: Cond.initialized "java/lang/IndexOutOfBoundsException" :: (Bundle.ownAtoms "BoardScript" 101 "java/lang/IndexOutOfBoundsException" ["java/lang/RuntimeException", "java/lang/Exception"]).filter zxno, (w.onTables || goodWord w) = true := by decide +kernel
set_option maxRecDepth 100000 in
theorem lw_w2c : Cond.stringRef "BoardScript" 126 "no such output" ∈ lw_tbl := by decide +kernel
set_option maxRecDepth 100000 in
theorem lw_w2d : Cond.exactly (.string "BoardScript" 126) "java/lang/String" ∈ flatC lw_g := by decide +kernel
set_option maxRecDepth 100000 in
theorem lw_w3a : ∀ w ∈ Cond.classLink "BoardScript" 97 "java/lang/IndexOutOfBoundsException" :: Cond.initialized "java/lang/IndexOutOfBoundsException" :: (Bundle.ownAtoms "BoardScript" 101 "java/lang/IndexOutOfBoundsException" ["java/lang/RuntimeException", "java/lang/Exception"]).filter zxno, w ∈ lw_tbl := by decide +kernel
set_option maxRecDepth 100000 in
theorem lw_w3b : ∀ w ∈ Cond.classLink "BoardScript" 97 "java/lang/IndexOutOfBoundsException" :: Cond.initialized "java/lang/IndexOutOfBoundsException" :: (Bundle.ownAtoms "BoardScript" 101 "java/lang/IndexOutOfBoundsException" ["java/lang/RuntimeException", "java/lang/Exception"]).filter zxno, (w.onTables || goodWord w) = true := by decide +kernel
set_option maxRecDepth 100000 in
theorem lw_w3c : Cond.stringRef "BoardScript" 145 "an error has 0, 1 and 2" ∈ lw_tbl := by decide +kernel
set_option maxRecDepth 100000 in
theorem lw_w3d : Cond.exactly (.string "BoardScript" 145) "java/lang/String" ∈ flatC lw_g := by decide +kernel
set_option maxRecDepth 100000 in
theorem lw_Xof {args : Array Value} {s : State} (hts : ∀ w ∈ lw_tbl, w.before args s = true) (hgv : lw_g.before args s = true) : ∃ adK adV sa : Nat → Nat, lwX s.heap.size adK adV sa s := by
  have hs := flat_of_before _ hgv
  have hA : ∀ a : Nat, a < s.heap.size → ¬ (fun q : Nat => s.heap.size ≤ q) a := fun a h => Nat.not_le.mpr h
  obtain ⟨adK, adV, hS, hE⟩ := vk_Sof (args := args) (s := s) (N := 11) (tm := lw_tm) (len := zzsn) (byt := zzsy) (A := fun q => s.heap.size ≤ q) (by decide +kernel) (fun i hi => hs _ (lw_m0 i hi)) (fun i hi => hs _ (lw_m1 i hi)) (fun i hi => hs _ (lw_m2 i hi)) (fun i hi => hs _ (lw_m3 i hi)) (fun i hi j hj => hs _ (lw_m4 i hi j hj)) (fun i j hi hj hne => (lw_m5 i hi j hj hne).elim (fun h => Or.inl (hs _ h)) (fun h => Or.inr (hs _ h))) hA
  have hU : zxL Bundle.tN "UNASSIGNED_STACK" Bundle.steD s.heap.size s s.heap := lw_zxL (hts _ (by decide +kernel)) (hts _ (by decide +kernel)) (hs _ (by decide +kernel))
  have hN : zxL Bundle.tN "SUPPRESSED_SENTINEL" Bundle.listD s.heap.size s s.heap := lw_zxL (hts _ (by decide +kernel)) (hts _ (by decide +kernel)) (hs _ (by decide +kernel))
  obtain ⟨s0, hW0⟩ := lw_zxW hts hU hN lw_w0a lw_w0b lw_w0c (hs _ lw_w0d)
  obtain ⟨s1, hW1⟩ := lw_zxW hts hU hN lw_w1a lw_w1b lw_w1c (hs _ lw_w1d)
  obtain ⟨s2, hW2⟩ := lw_zxW hts hU hN lw_w2a lw_w2b lw_w2c (hs _ lw_w2d)
  obtain ⟨s3, hW3⟩ := lw_zxW hts hU hN lw_w3a lw_w3b lw_w3c (hs _ lw_w3d)
  refine ⟨adK, adV, fun k => if k = 0 then s0 else if k = 1 then s1 else if k = 2 then s2 else s3, ⟨⟨va_Nw.of rfl (hts _ (by decide +kernel)), va_Nw.of rfl (hts _ (by decide +kernel)), va_Nw.of rfl (hts _ (by decide +kernel)), va_Nw.of rfl (hts _ (by decide +kernel)), va_Nw.of rfl (hts _ (by decide +kernel)), va_AO.of (hts _ (by decide +kernel)), hts (.arrayOver (.array .long)) (by decide +kernel)⟩, fun i hi => vk_R.of (hts _ (lw_m6 i hi)) (hE i hi), hS, va_Zof (hts _ (by decide +kernel)) (hts _ (by decide +kernel)) (va_eqt (hs _ (by decide +kernel))) hA, va_Zqof (hts _ (by decide +kernel)) (hts _ (by decide +kernel)) (hs _ (by decide +kernel)) hA⟩, hW0, hW1, hW2, hW3⟩
def lw_dc (w : Cond) : Bool := match w with
  | .declares _ => true
  | .castable _ _ => true
  | _ => false
theorem lw_zxWs {bs : Nat} {own cls tx : String} {ik is_ ic sa : Nat} {names : List String} (hgood : ∀ w ∈ Cond.classLink own ik cls :: Cond.initialized cls :: (Bundle.ownAtoms own ic cls names).filter zxno, (goodWord w || lw_dc w) = true) {u U : State} (h : zxW bs own ik is_ ic cls tx names sa u) (hW : u.WarmedH U.vm) (hq : ∀ q : Nat, q < bs → U.heap[q]? = u.heap[q]?) : zxW bs own ik is_ ic cls tx names sa U :=
  ⟨fun w hw => by
    have hg := hgood w hw
    simp only [Bool.or_eq_true] at hg
    rcases hg with hg | hg
    · exact word_at hW (good_of_word hg) (h.1 w hw)
    · have h0 := h.1 w hw
      cases w <;> first | (cases hg; done) | exact va_Nw.warmD hW h0 | exact va_Nw.warmC hW h0, vk_R.warm hW h.2.1, h.2.2.1.go hW.alike hq, h.2.2.2.go hW.alike hq⟩
set_option maxRecDepth 100000 in
theorem lw_w0e : ∀ w ∈ Cond.classLink "BoardScript" 97 "java/lang/IndexOutOfBoundsException" :: Cond.initialized "java/lang/IndexOutOfBoundsException" :: (Bundle.ownAtoms "BoardScript" 101 "java/lang/IndexOutOfBoundsException" ["java/lang/RuntimeException", "java/lang/Exception"]).filter zxno, (goodWord w || lw_dc w) = true := by decide +kernel
set_option maxRecDepth 100000 in
theorem lw_w1e : ∀ w ∈ Cond.classLink "BoardScript" 110 "java/lang/IllegalArgumentException" :: Cond.initialized "java/lang/IllegalArgumentException" :: (Bundle.ownAtoms "BoardScript" 114 "java/lang/IllegalArgumentException" ["java/lang/RuntimeException", "java/lang/Exception"]).filter zxno, (goodWord w || lw_dc w) = true := by decide +kernel
set_option maxRecDepth 100000 in
theorem lw_w2e : ∀ w ∈ Cond.classLink "BoardScript" 97 "java/lang/IndexOutOfBoundsException" :: Cond.initialized "java/lang/IndexOutOfBoundsException" :: (Bundle.ownAtoms "BoardScript" 101 "java/lang/IndexOutOfBoundsException" ["java/lang/RuntimeException", "java/lang/Exception"]).filter zxno, (goodWord w || lw_dc w) = true := by decide +kernel
set_option maxRecDepth 100000 in
theorem lw_w3e : ∀ w ∈ Cond.classLink "BoardScript" 97 "java/lang/IndexOutOfBoundsException" :: Cond.initialized "java/lang/IndexOutOfBoundsException" :: (Bundle.ownAtoms "BoardScript" 101 "java/lang/IndexOutOfBoundsException" ["java/lang/RuntimeException", "java/lang/Exception"]).filter zxno, (goodWord w || lw_dc w) = true := by decide +kernel
theorem lw_AOJ {u U : State} (hvm : u.vm.Alike U.vm) (h : zzAOJ u) : zzAOJ U := by
  unfold zzAOJ Cond.before Cond.holds at h ⊢
  simp only [Cond.value, beq_iff_eq] at h ⊢
  cases hc : u.vm.findClass (FieldType.array .long).toString with
  | none => simp [hc] at h
  | some comp =>
    simp only [hc, Option.bind_some, Option.bind_eq_some_iff, Option.map_eq_some_iff] at h
    obtain ⟨c, hi, k, hk, hb⟩ := h
    obtain ⟨k1, hk1, he⟩ := hvm.2.2 _ _ hk
    have hi1 : (U.vm.classes.findIdx? fun (x : Class) => match x.kind with | .array component _ => component == comp | _ => false) = some c := by
      have e1 := va_idx_bare U.vm comp
      have e2 := va_idx_bare u.vm comp
      have e3 : U.vm.bare = u.vm.bare := by first | exact hvm.bare_eq | exact hvm.bare_eq.symm
      rw [e3] at e1
      exact e1.symm.trans (e2.trans hi)
    have f1 : U.vm.findClass (FieldType.array .long).toString = some comp := by rw [hvm.findClass]; exact hc
    rw [f1, Option.bind_some]
    simp only [Option.bind_eq_some_iff, Option.map_eq_some_iff]
    refine ⟨c, hi1, k1, hk1, ?_⟩
    rw [he, hvm.findClass]
    exact hb
theorem lw_stab1 {bs : Nat} {adK adV sa : Nat → Nat} {u U : State} (h : lwX bs adK adV sa u) (hW : u.WarmedH U.vm) (hq : ∀ q : Nat, q < bs → U.heap[q]? = u.heap[q]?) : lwX bs adK adV sa U := by
  obtain ⟨⟨⟨n1, n2, n3, n4, n5, n6, n7⟩, t1, t2, t3, t4⟩, w0, w1, w2, w3⟩ := h
  have hq' : ∀ a : Nat, a < u.heap.size → ¬ (fun q : Nat => bs ≤ q) a → U.heap[a]? = u.heap[a]? := fun a _ h => hq a (Nat.not_le.mp h)
  exact ⟨⟨⟨va_Nw.warmM hW n1, va_Nw.warmM hW n2, va_Nw.warmM hW n3, va_Nw.warmM hW n4, va_Nw.warmM hW n5, va_AO.moved hW.alike n6, lw_AOJ hW.alike n7⟩, fun i hi => vk_R.warm hW (t1 i hi), vk_S.moved hW.alike (t2.kept hq'), va_Z.moved hW.alike (t3.kept hq'), va_Zq.moved hW.alike (t4.kept hq')⟩, lw_zxWs lw_w0e w0 hW hq, lw_zxWs lw_w1e w1 hW hq, lw_zxWs lw_w2e w2 hW hq, lw_zxWs lw_w3e w3 hW hq⟩
theorem lw_stab {bs : Nat} {adK adV sa : Nat → Nat} : zzStab bs (lwX bs adK adV sa) :=
  ⟨fun u U h hW hq => lw_stab1 h hW hq, fun U g mk a h => lw_stab1 h (State.WarmedH.refl U) (fun q _ => rfl)⟩
