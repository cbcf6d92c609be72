section S_21_R1S
/-- the reference's test: low ≤ v ≤ high -/
def zin (v low high : Int32) : Int32 := if v < low then 0 else if high < v then 0 else 1
theorem k_X11_in (l : Launch) (D : va_G) (T : Nat → ClassId) (m0 : Nat) (a : Nat → Nat) (p0 : Int32) (p1 : Int32) (p2 : Int32) (r : Nat → Int32) (q : Nat → Nat → Int32) : RMi l yX11_in (ws_X11_in) rm_X11_in D T m0 a [.int p0, .int p1, .int p2] r q (fun v u => v = (zin p0 p1 p2) ∧ u = (r, q)) := c_X11_in l D T m0 a p0 p1 p2 r q _ <|
  (by
    unfold wp_X11_in zin
    refine ⟨fun z => ?_, fun z => ⟨fun z2 => ?_, fun z2 => ?_⟩⟩
    · simp [z]
    · simp [z, z2]
    · simp [z, z2])
theorem k_X11_at (l : Launch) (D : va_G) (T : Nat → ClassId) (m0 : Nat) (a : Nat → Nat) (p0 : Int32) (r : Nat → Int32) (q : Nat → Nat → Int32) : RMi l yX11_at (ws_X11_at) rm_X11_at D T m0 a [.int p0] r q (fun v u => v = (274 + 510 * p0) ∧ u = (r, q)) := c_X11_at l D T m0 a p0 r q _ <|
  ⟨rfl, rfl⟩

end S_21_R1S
