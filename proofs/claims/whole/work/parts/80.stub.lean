theorem op_pack {E : ev} {s : st} {n : Nat} (hE : okE E) (hI : Inv E s n) (v1 : Int32) (hv : v1 = 0 ∨ v1 = 1) : OpOK E s n (f_X_pack (E.1 0 0) v1) (f_Mo_pack (E.1 30 0) v1) := by
  sorry
theorem op_title {E : ev} {s : st} {n : Nat} (hE : okE E) (hI : Inv E s n) (v1 v2 : Int32) : OpOK E s n (f_X_title (E.1 0 0) v1 v2) (f_Mo_title (E.1 30 0) v1 v2) := by
  sorry
