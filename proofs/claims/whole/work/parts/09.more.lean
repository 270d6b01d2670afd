theorem lj_X3_29 : Cond.methodLink RX3 29 Lib.Math.min.name ∈ gT := a_inG 527 (by decide +kernel) rfl
theorem lj_X6_68 : Cond.methodLink RX6 68 Lib.Math.abs.name ∈ gT := a_inG 555 (by decide +kernel) rfl
theorem lj_X9_282 : Cond.methodLink RX9 282 Lib.Math.max.name ∈ gT := a_inG 746 (by decide +kernel) rfl
