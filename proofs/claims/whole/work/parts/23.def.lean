/-! WHAT IS LEFT: one pure statement -/
def ab_pow : List Int32 := [1, 5, 25, 125, 625, 3125, 15625]
def ab_fx (xs : List Int32) : Nat → List Int32 := fun k => if k = 0 then ab_pow else xs
/-- what is left: for every script the abstract run of the law ends with 1, within the room -/
def ab_Main : Prop := ∀ xs : List Int32, xs.length ≤ 2048 → ∃ (n d : Nat) (h' : ab_H), d ≤ 800 ∧ ab_go ab_mt (ab_fx xs) n d 312 0 (ab_in 9 [.retAddr 1] []) = some (.inl (some (.int 1)), h') ∧ h'.length ≤ 137388 ∧ ab_hsz h' ≤ 8683942
