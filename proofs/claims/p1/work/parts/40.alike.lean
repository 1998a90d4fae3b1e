theorem e_known (c : Int32) : f_known c = g_code c := by
  have e : (5 < c) = (6 ≤ c) := by
    apply propext
    rw [Int32.lt_iff_toInt_lt, Int32.le_iff_toInt_le]
    show (5 : Int) < c.toInt ↔ (6 : Int) ≤ c.toInt
    omega
  unfold f_known g_code
  simp only [e]
theorem e_isL (x : Int32) : f_isL x = g_isL x := by
  have e : (65535 < x) = (65536 ≤ x) := by
    apply propext
    rw [Int32.lt_iff_toInt_lt, Int32.le_iff_toInt_le]
    show (65535 : Int) < x.toInt ↔ (65536 : Int) ≤ x.toInt
    omega
  unfold f_isL g_isL
  simp only [e]
theorem e_one (c : Int32) : f_one c = g_one c := by unfold f_one g_one; rw [e_known]
theorem e_two (a b : Int32) : f_two a b = g_two a b := by
  unfold f_two g_two f_both
  rw [e_known, e_known]
  by_cases h1 : g_code a = 0
  · rw [if_pos h1, if_pos h1, if_pos rfl]
  · rw [if_neg h1, if_neg h1]
    by_cases h2 : g_code b = 0
    · rw [if_pos h2, if_pos h2, if_pos rfl]
    · rw [if_neg h2, if_neg h2, if_neg (by decide)]
theorem e_undo (a b : Int32) : f_two b a = g_two a b := by
  rw [e_two]
  unfold g_two
  by_cases h1 : g_code a = 0
  · rw [if_pos h1, if_pos h1]
    split <;> rfl
  · rw [if_neg h1, if_neg h1]
theorem e_cost (x y v : Int32) : f_cost x y v = g_cost x y v := by
  unfold f_cost g_cost f_tell
  rw [e_isL, e_isL]
  by_cases h1 : g_isL x = 0
  · rw [if_pos h1, if_pos h1]
  · rw [if_neg h1, if_neg h1]
    by_cases h2 : g_isL y = 0
    · rw [if_pos h2, if_pos h2]
    · rw [if_neg h2, if_neg h2]
      by_cases h3 : v < 0
      · simp [h3]
      · by_cases h4 : v ≤ 200
        · simp [h3, h4]
        · simp [h3, h4]
theorem e_never : ∀ a ∈ ([0, 1, 2, 3, 4, 5] : List Int32), ∀ b ∈ ([0, 1, 2, 3, 4, 5] : List Int32), (if f_never a b = 0 then (0 : Int32) else 1) = g_all a b := by decide +kernel
theorem p_mem {c : Int32} (h : is_code c) : c ∈ ([0, 1, 2, 3, 4, 5] : List Int32) := by
  rcases h with rfl | rfl | rfl | rfl | rfl | rfl <;> decide
theorem e_safe (a b : Int32) : f_safe a b = g_safe a b := by
  unfold f_safe g_safe
  rw [e_known, e_known]
  by_cases h1 : g_code a = 0
  · rw [if_pos h1, if_pos h1]
  · rw [if_neg h1, if_neg h1]
    by_cases h2 : g_code b = 0
    · rw [if_pos h2, if_pos h2]
    · rw [if_neg h2, if_neg h2]
      exact e_never a (p_mem (p_code h1)) b (p_mem (p_code h2))
theorem e_can (fr n le sp : Int32) : f_can fr n le sp = g_can fr n le sp := by
  have e : (256 ≤ fr) = (255 < fr) := by
    apply propext
    rw [Int32.lt_iff_toInt_lt, Int32.le_iff_toInt_le]
    show (256 : Int) ≤ fr.toInt ↔ (255 : Int) < fr.toInt
    omega
  unfold f_can g_can
  simp only [e, e_isL]
  by_cases h1 : fr < 0
  · rw [if_pos h1, if_pos h1]
  by_cases h2 : 255 < fr
  · rw [if_neg h1, if_neg h1, if_pos h2, if_pos h2]
  by_cases h3 : n < 1
  · rw [if_neg h1, if_neg h1, if_neg h2, if_neg h2, if_pos h3, if_pos h3]
  by_cases h4 : 256 - fr < n
  · rw [if_neg h1, if_neg h1, if_neg h2, if_neg h2, if_neg h3, if_neg h3, if_pos h4, if_pos h4]
  by_cases h5 : sp < (-255)
  · rw [if_neg h1, if_neg h1, if_neg h2, if_neg h2, if_neg h3, if_neg h3, if_neg h4, if_neg h4, if_pos h5, if_pos h5]
  by_cases h6 : 255 < sp
  · rw [if_neg h1, if_neg h1, if_neg h2, if_neg h2, if_neg h3, if_neg h3, if_neg h4, if_neg h4, if_neg h5, if_neg h5, if_pos h6, if_pos h6]
  rw [if_neg h1, if_neg h1, if_neg h2, if_neg h2, if_neg h3, if_neg h3, if_neg h4, if_neg h4, if_neg h5, if_neg h5, if_neg h6, if_neg h6]
  by_cases h7 : g_isL le = 0
  · rw [if_pos h7]
    by_cases h8 : ¬ n ≤ 1 ∧ sp = 0
    · rw [if_pos h8]
    · rw [if_neg h8, if_pos h7]
  · rw [if_neg h7]
    by_cases h8 : ¬ n ≤ 1 ∧ sp = 0
    · rw [if_pos h8, if_pos ⟨h8.2, h8.1⟩]
    · rw [if_neg h8, if_neg (fun z => h8 ⟨z.2, z.1⟩), if_neg h7]
theorem e_span (cd fr n le sp : Int32) : f_spanc cd fr n le sp = g_spanc cd fr n le sp := by
  unfold f_spanc g_spanc f_span g_span
  rw [e_can]
