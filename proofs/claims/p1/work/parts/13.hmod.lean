theorem tz_cmp_lt {x y : Int64} (h : lg_cmp x y < 0) : ¬ y ≤ x := by
  intro hle
  unfold lg_cmp at h
  by_cases h1 : y < x
  · rw [if_pos h1] at h; exact absurd h (by decide)
  · have e : x = y := by
      rw [Int64.lt_iff_toInt_lt] at h1
      rw [Int64.le_iff_toInt_le] at hle
      exact Int64.toInt_inj.mp (by omega)
    rw [if_neg h1, if_pos e] at h; exact absurd h (by decide)
theorem tz_cmp_nlt {x y : Int64} (h : ¬ lg_cmp x y < 0) : y ≤ x := by
  unfold lg_cmp at h
  by_cases h1 : y < x
  · rw [Int64.lt_iff_toInt_lt] at h1; rw [Int64.le_iff_toInt_le]; omega
  · by_cases e : x = y
    · subst e; rw [Int64.le_iff_toInt_le]; omega
    · rw [if_neg h1, if_neg e] at h; exact absurd (by decide) h
theorem tz_cmp_gt {x y : Int64} (h : 0 < lg_cmp x y) : ¬ x ≤ y := by
  unfold lg_cmp at h
  by_cases h1 : y < x
  · rw [Int64.lt_iff_toInt_lt] at h1; rw [Int64.le_iff_toInt_le]; omega
  · by_cases e : x = y
    · rw [if_neg h1, if_pos e] at h; exact absurd h (by decide)
    · rw [if_neg h1, if_neg e] at h; exact absurd h (by decide)
theorem tz_cmp_ngt {x y : Int64} (h : ¬ 0 < lg_cmp x y) : x ≤ y := by
  unfold lg_cmp at h
  by_cases h1 : y < x
  · rw [if_pos h1] at h; exact absurd (by decide) h
  · rw [Int64.lt_iff_toInt_lt] at h1; rw [Int64.le_iff_toInt_le]; omega
theorem tz_emp {x : Int32} (h : 0 ≤ x ∧ x ≤ -1) : False := by
  obtain ⟨a, b⟩ := h
  rw [Int32.le_iff_toInt_le] at a b
  have a' : (0 : Int) ≤ x.toInt := a
  have b' : x.toInt ≤ -1 := b
  omega
-- what the reference's ways answer
def yO (k : Int32) : Int32 := if 2 ≤ k then (if k = 2 then 1 else 0) else -1
def yF (k : Int32) : Int32 := if k = 3 then -5 else yO k
def yT (k : Int32) : Int32 := yO (k / 2)
def yK (k : Int32) : Int32 := if 6 ≤ k ∧ k ≤ 8 then -2 else yO (k / 2)
def yS (w : Int32) : Int32 → Int32 := if w = 0 then yO else if w = 1 then yF else if w = 2 then zW else if w = 3 then zH else if w = 4 then yT else yK
theorem tz_yz {w : Int32} (h : 0 ≤ w ∧ w ≤ 5) : ∀ j, j < 20 → yS w (nI j) = zS w (nI j) := by
  rcases tz_six h with rfl | rfl | rfl | rfl | rfl | rfl <;> decide
theorem tz_zN_congr {f g : Int32 → Int32} (h : ∀ j, j < 20 → f (nI j) = g (nI j)) (v : Int32) : ∀ n, n ≤ 20 → zN f v n = zN g v n := by
  intro n
  induction n with
  | zero => intro _; rfl
  | succ n ih => intro hn; simp only [zN]; rw [h n (by omega), ih (by omega)]
