def puRel : zzS → zzM → zzM → Prop := fun _ _ _ => True
theorem pu_ok : lwOK puRel := by sorry
theorem pu_start : puRel lwSc lwM3 lwM3 := trivial
