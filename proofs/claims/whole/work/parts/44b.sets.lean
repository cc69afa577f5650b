/-! two worlds side by side: one of them is put anew -/
def iot : Nat → Nat → List Nat
  | _, 0 => []
  | k, n + 1 => k :: iot (k + 1) n
theorem sets_mid : ∀ (u w a v : va_W), u.length = w.length → sets (a ++ u ++ v) (iot a.length u.length) w = a ++ w ++ v
  | [], [], a, v, _ => rfl
  | [], y :: w, a, v, h => by simp at h
  | x :: u, [], a, v, h => by simp at h
  | x :: u, y :: w, a, v, h => by
    show sets ((a ++ x :: u ++ v).set a.length y) (iot (a.length + 1) u.length) w = a ++ y :: w ++ v
    have e : (a ++ x :: u ++ v).set a.length y = (a ++ [y]) ++ u ++ v := by simp
    rw [e]
    have ih := sets_mid u w (a ++ [y]) v (by simpa using h)
    rw [show (a ++ [y]).length = a.length + 1 by simp] at ih
    rw [ih]
    simp
theorem sets_lo {u w v : va_W} {is : List Nat} (h : u.length = w.length) (hi : is = iot 0 u.length) : sets (u ++ v) is w = w ++ v := by
  subst hi
  exact sets_mid u w [] v h
theorem sets_hi {a u w : va_W} {is : List Nat} (h : u.length = w.length) (hi : is = iot a.length u.length) : sets (a ++ u) is w = a ++ w := by
  subst hi
  have := sets_mid u w a [] h
  simpa using this
