set_option maxRecDepth 100000 in
theorem lk_L_197 : LkS RL 197 mL_act 2 := ⟨(tG 1028 (by decide +kernel) (by decide +kernel)), (tG 1029 (by decide +kernel) (by decide +kernel)), (tG 17 (by decide +kernel) (by decide +kernel)), (tG 1030 rfl (by decide +kernel)), by decide +kernel, by decide +kernel, by decide⟩
set_option maxRecDepth 100000 in
theorem lk_L_201 : LkS RL 201 mL_refuses 2 := ⟨(tG 303 (by decide +kernel) (by decide +kernel)), (tG 304 (by decide +kernel) (by decide +kernel)), (tG 17 (by decide +kernel) (by decide +kernel)), (tG 305 rfl (by decide +kernel)), by decide +kernel, by decide +kernel, by decide⟩
set_option maxRecDepth 100000 in
theorem lk_L_205 : LkS RL 205 mL_alike 3 := ⟨(tG 1036 (by decide +kernel) (by decide +kernel)), (tG 1037 (by decide +kernel) (by decide +kernel)), (tG 17 (by decide +kernel) (by decide +kernel)), (tG 1038 rfl (by decide +kernel)), by decide +kernel, by decide +kernel, by decide⟩
set_option maxRecDepth 100000 in
theorem lk_L_213 : LkS RL 213 mL_gains 3 := ⟨(tG 1039 (by decide +kernel) (by decide +kernel)), (tG 1040 (by decide +kernel) (by decide +kernel)), (tG 17 (by decide +kernel) (by decide +kernel)), (tG 1041 rfl (by decide +kernel)), by decide +kernel, by decide +kernel, by decide⟩
set_option maxRecDepth 100000 in
theorem lk_L_216 : LkS RL 216 mL_best 3 := ⟨(tG 1045 (by decide +kernel) (by decide +kernel)), (tG 1046 (by decide +kernel) (by decide +kernel)), (tG 17 (by decide +kernel) (by decide +kernel)), (tG 1047 rfl (by decide +kernel)), by decide +kernel, by decide +kernel, by decide⟩
set_option maxRecDepth 100000 in
theorem lk_L_218 : LkS RL 218 mL_improves 3 := ⟨(tG 1048 (by decide +kernel) (by decide +kernel)), (tG 1049 (by decide +kernel) (by decide +kernel)), (tG 17 (by decide +kernel) (by decide +kernel)), (tG 1050 rfl (by decide +kernel)), by decide +kernel, by decide +kernel, by decide⟩
/-- as LkS, for a method of many locals -/
def LkS2 (own : String) (idx : Nat) (y : MI) (n : Nat) : Prop := Cond.methodLink own idx y.1 ∈ tblG ∧ Cond.static y.1 ∈ tblG ∧ Cond.initialized y.1.cls ∈ tblG ∧ Cond.code y.1 (mC y) (mL y) (mR y) ∈ tblG ∧ nMH y.1 ∧ nPar y.1 = some n ∧ mL y ≤ 61
set_option maxRecDepth 100000 in
theorem lk_L_209 : LkS2 RL 209 mL_sound 1 := ⟨(tG 1013 (by decide +kernel) (by decide +kernel)), (tG 1014 (by decide +kernel) (by decide +kernel)), (tG 17 (by decide +kernel) (by decide +kernel)), (tG 1015 rfl (by decide +kernel)), by decide +kernel, by decide +kernel, by decide⟩
