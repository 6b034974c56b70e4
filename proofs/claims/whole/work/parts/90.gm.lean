-- the one thing that is still owed: a cell's reduced six has the told one's multiples, each as often (uniqueness of the reduced form, and the class's turns suffice)
theorem gm_of {t l : P6} {nh : Int32} (h : GCell t l nh) : GM t l := by
  sorry

