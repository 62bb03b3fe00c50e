theorem xq_fp {α : Type} {p : α → Bool} {a : α} {l : List α} (h : p a = true) : List.filter p (a :: l) = a :: List.filter p l := List.filter_cons_of_pos h
theorem xq_fn {α : Type} {p : α → Bool} {a : α} {l : List α} (h : p a = false) : List.filter p (a :: l) = List.filter p l := List.filter_cons_of_neg (by rw [h]; exact Bool.false_ne_true)
