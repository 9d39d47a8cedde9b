/-! Objects as they come, with nothing in them -/
def k_i5 (_cI : ClassId) (a : Nat) (w : va_W) : Prop := w = [(a, .inr (4, [.null, .int 0]))]
def k_i2 (_cI : ClassId) (a : Nat) (w : va_W) : Prop := w = [(a, .inr (2, [.null, .null, .int 0]))]
