/-! the words of the two classes and of the helpers lie in the tables -/
theorem in_all {A B : List Cond} (h : (A.all fun w => decide (w ∈ B)) = true) : ∀ w ∈ A, w ∈ B := fun w hw => of_decide_eq_true (List.all_eq_true.mp h w hw)
set_option maxRecDepth 100000 in
theorem tX : ∀ w ∈ wX, w ∈ lw_tbl := in_all (by decide +kernel)
