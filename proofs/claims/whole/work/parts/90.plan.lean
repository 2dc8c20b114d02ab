/-! ===== plan ===== -/
section
variable {x : RO} {d : Nat} {Q : QT} {I : MI} {J : MJ} {n : Nat}
theorem call_plan {k : Int} (h : Inv n I J) (hn : n < 600) (hk : inR k) : Pair x (d + 20) 89 155 [.inl k] n I J := by
  sorry
end
