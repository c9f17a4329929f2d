/-! ===== every run of the abstract machine ends with 1 ===== -/
theorem pt_run : ∀ X : List Int32, X.length ≤ 3072 → st_run X := fun X hX => lp_end (@sp_team) X hX
