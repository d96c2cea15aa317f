theorem t2_in {x : Int32} (c : ¬ gX6_isTable x = 0) : xT200 x := by
  have h := tab_ne.mp c
  exact ⟨by omega, h.2⟩
theorem pg_in {x : Int32} (c : ¬ gX6_in x.toInt64 3 500 = 0) : xP3 x := by
  have h := in_ne.mp c
  rw [show (3 : Int64).toInt = 3 from rfl, show (500 : Int64).toInt = 500 from rfl] at h
  exact ⟨h.1, by omega⟩
