/-! what omega is not to open: each 'or', each 'not' of several, costs it a split in every call -/
def ORR (a b : Prop) : Prop := a ∨ b
theorem orr {a b : Prop} (h : a ∨ b) : ORR a b := h
theorem ORR.to {a b : Prop} (h : ORR a b) : a ∨ b := h
def IMP (a b : Prop) : Prop := a → b
theorem imp {a b : Prop} (h : a → b) : IMP a b := h
theorem IMP.to {a b : Prop} (h : IMP a b) : a → b := h
def NO3 (a : Prop) : Prop := ¬ a
theorem no3 {a : Prop} (h : ¬ a) : NO3 a := h
theorem NO3.to {a : Prop} (h : NO3 a) : ¬ a := h
