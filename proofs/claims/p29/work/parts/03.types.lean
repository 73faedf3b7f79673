/-! THE PURE MACHINE: instructions as numbers -/
/-- an instruction: its number, two small numbers, a constant -/
abbrev m_P : Type := Nat × Nat × Nat × Int
