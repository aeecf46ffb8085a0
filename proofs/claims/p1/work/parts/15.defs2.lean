def fBetter (a : Int32) : Int32 := if a < 1 then -1 else if 2000 < a then -1 else 0
def fFree (a : Int32) : Int32 := if a < 1 then -1 else if 60 < a then -1 else 1
