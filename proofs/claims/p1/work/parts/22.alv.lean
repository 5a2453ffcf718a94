theorem lv_two {ls : Array Slot} {n : Nat} {l : List (Nat × Value)} (h : lv_has ls n l) {p q : Nat × Value} (i j : Nat) (hi : l[i]? = some p) (hj : l[j]? = some q) : lv_has ls n [p, q] := ⟨h.1, h.2.1, fun x hx => by
  rcases List.mem_cons.mp hx with rfl | hx
  · exact h.2.2 _ (List.mem_of_getElem? hi)
  · rcases List.mem_singleton.mp hx with rfl
    exact h.2.2 _ (List.mem_of_getElem? hj)⟩
