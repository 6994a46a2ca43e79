/-! safe: joined to the part ahead -/
theorem mj_45c : True := True.intro
