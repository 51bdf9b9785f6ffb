section
variable {p : Program} {l : Launch} {e : Env} {R : Room} {s : State} {m : MethodId} {args : Array Value} {below : List Frame} {meth : Method} {c : Code} {H : Heap} {locs : List Loc} {cells slots : Nat} {Q : State → Prop} {pc : Nat} {ls : Array Slot} {rest : List Value}
theorem tz_i {x : Int32} (z : Int32) (h : x = z) (k : W p l e R s m args below meth c H locs cells slots Q (F0 m pc ls (.int z :: rest))) : W p l e R s m args below meth c H locs cells slots Q (F0 m pc ls (.int x :: rest)) := by subst h; exact k
theorem tz_l {x : Int64} (z : Int64) (h : x = z) (k : W p l e R s m args below meth c H locs cells slots Q (F0 m pc ls (.long z :: rest))) : W p l e R s m args below meth c H locs cells slots Q (F0 m pc ls (.long x :: rest)) := by subst h; exact k
theorem tz_v {x : Value} (z : Value) (h : x = z) (k : W p l e R s m args below meth c H locs cells slots Q (F0 m pc ls (z :: rest))) : W p l e R s m args below meth c H locs cells slots Q (F0 m pc ls (x :: rest)) := by subst h; exact k
end
theorem tz_P0 {D : va_G} {cl : List vw_C} {H : Heap} : va_P D cl [] H := fun k q h => by simp at h
theorem tz_D0 {A : Nat → Prop} : va_D A [] := ⟨fun i j p q h => by simp at h, fun k q h => by simp at h⟩
theorem tz_nlt {a b : Int32} (h : ¬ a < b) : b ≤ a := Int32.not_lt.mp h
theorem tz_nle {a b : Int32} (h : ¬ a ≤ b) : b < a := Int32.not_le.mp h
theorem tz_ltn {a b : Int32} (h : a < b) : ¬ b ≤ a := Int32.not_le.mpr h
theorem tz_lef {a b : Int32} (h1 : ¬ a < b) (h2 : ¬ b ≤ a) : False := h2 (tz_nlt h1)
theorem tz_in {x N : Int32} {n : Nat} (h1 : ¬ x < 0) (h2 : ¬ N ≤ x) (hN : N.toInt = n) : vp_in x n := by
  rw [vp_in_iff]
  have a := tz_nlt h1
  have b := tz_nle h2
  rw [Int32.le_iff_toInt_le] at a
  rw [Int32.lt_iff_toInt_lt] at b
  exact ⟨a, by omega⟩
theorem tz_inb {x M : Int32} {n : Nat} (h : 0 ≤ x ∧ x ≤ M) (hM : M.toInt + 1 = n) : vp_in x n := by
  rw [vp_in_iff]
  obtain ⟨a, b⟩ := h
  rw [Int32.le_iff_toInt_le] at a b
  exact ⟨a, by omega⟩
theorem tz_ltle {x N M : Int32} (h : ¬ N ≤ x) (e : N.toInt = M.toInt + 1) : x ≤ M := by
  have b := tz_nle h
  rw [Int32.lt_iff_toInt_lt] at b
  rw [Int32.le_iff_toInt_le]
  omega
theorem tz_gele {x N M : Int32} (h : N ≤ x) (e : N.toInt = M.toInt + 1) : ¬ x ≤ M := by
  rw [Int32.le_iff_toInt_le] at h ⊢
  omega
theorem tz_in64 {lo v hi : Int32} {LO V HI : Int64} (h1 : lo.toInt64 = LO) (h2 : v.toInt64 = V) (h3 : hi.toInt64 = HI) : (LO ≤ V ∧ V ≤ HI) ↔ (lo ≤ v ∧ v ≤ hi) := by
  subst h1 h2 h3
  rw [Int64.le_iff_toInt_le, Int64.le_iff_toInt_le, Int32.le_iff_toInt_le, Int32.le_iff_toInt_le, Int32.toInt_toInt64, Int32.toInt_toInt64, Int32.toInt_toInt64]
theorem tz_pick {x : Int32} {n : Nat} (h0 : 0 ≤ x) {M : Int32} (h1 : x ≤ M) (hM : M.toInt + 1 = n) : ∃ j : Nat, j < n ∧ x = nI j := by
  rw [Int32.le_iff_toInt_le] at h0 h1
  have h0' : (0 : Int) ≤ x.toInt := h0
  refine ⟨x.toInt.toNat, by omega, ?_⟩
  have hlt := x.toInt_lt
  apply Int32.toInt_inj.mp
  rw [nI_toInt (by omega)]
  omega
