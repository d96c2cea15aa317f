theorem hz_in {x : Int32} (h : ¬ x < 0) (c : x < nI 4) : vp_in x 4 := xin_g' (by decide) h c
theorem hz_lt {x : Int32} (h : ¬ x < 0) (c : x < nI 4) : x.toNatClampNeg < 4 := xin_lt (hz_in h c)
theorem hz_in1 {x : Int32} (h : ¬ x < 1) (c : x ≤ nI 4) : vp_in (x - 1) 4 := by
  rw [x_ilt, i_1] at h
  rw [x_ile, nI_toInt (by decide)] at c
  have e : (x - 1).toInt = x.toInt - 1 := by rw [isb (by rw [i_1]; omega) (by rw [i_1]; omega), i_1]
  rw [vp_in_iff, e]
  omega
theorem hz_lt1 {x : Int32} (h : ¬ x < 1) (c : x ≤ nI 4) : (x - 1).toNatClampNeg < 4 := xin_lt (hz_in1 h c)
