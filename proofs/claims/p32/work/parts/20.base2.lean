theorem i_pos' {N i : Int32} (h : ¬ N ≤ i) (h0 : 0 ≤ i) : 0 ≤ i + 1 := i_pos (Int32.not_le.mp h) h0
theorem vin_b {i N : Int32} {n : Nat} (K : Int32) (hK : K.toInt = n) (h0 : 0 ≤ i) (h1 : ¬ N ≤ i) (h2 : N ≤ K) : vp_in i n := vin_lt K hK h0 (Int32.lt_of_lt_of_le (Int32.not_le.mp h1) h2)
