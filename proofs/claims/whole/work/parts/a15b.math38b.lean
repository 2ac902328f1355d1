/-- where nothing failed the offset is x -/
def EO (e o x : Int) : Prop := e = 0 → o = x
