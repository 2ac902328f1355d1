/-- where nothing failed the offset is none -/
def EN (e o : Int) : Prop := e = 0 → o = -1
