/-! Rings of ints. -/
theorem za_1 (p s a b c d e f0 f1 f2 f3 f4 : Int32) (h : a + b + c + d + e = s * p) : -p * s - f0 - f1 - f2 - f3 - f4 + (f0 + a) + (f1 + b) + (f2 + c) + (f3 + d) + (f4 + e) = 0 := by grind
theorem za_2 (x o u v : Int32) : x + (o - v) = x + (o - u) + u - v := by grind
theorem za_3 (x u v t : Int32) : x + u - v + t = x + t + u - v := by grind
theorem za_4 (x m : Int32) : x - 1 - m = x - (1 + m) := by grind
theorem za_5 (x f0 f1 f2 f3 f4 : Int32) (h : x = 0) : x - f0 - f1 - f2 - f3 - f4 + f0 + f1 + f2 + f3 + f4 = 0 := by grind
theorem za_d0 (a b c d e v s p : Int32) (h : a + b + c + d + e = s * p) : (a + v * p) + b + c + d + e = (s + v) * p := by grind
theorem za_d1 (a b c d e v s p : Int32) (h : a + b + c + d + e = s * p) : a + (b + v * p) + c + d + e = (s + v) * p := by grind
theorem za_d2 (a b c d e v s p : Int32) (h : a + b + c + d + e = s * p) : a + b + (c + v * p) + d + e = (s + v) * p := by grind
theorem za_d3 (a b c d e v s p : Int32) (h : a + b + c + d + e = s * p) : a + b + c + (d + v * p) + e = (s + v) * p := by grind
theorem za_d4 (a b c d e v s p : Int32) (h : a + b + c + d + e = s * p) : a + b + c + d + (e + v * p) = (s + v) * p := by grind
