/-! safe: joined to the part ahead -/
theorem mj_45r : True := True.intro
