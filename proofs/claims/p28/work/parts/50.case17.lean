/-! Works, part by part, as the class goes over the text -/
def k_i9 (_cI : ClassId) (a : Nat) (w : va_W) : Prop := w = [(a, .inr (5, [.null, .null, .null, .int 0, .null, .null]))]

