/-! ROOMS of the hand-made contracts -/
noncomputable section
def qR29 : Room := { frames := 2, cells := 0, slots := 0, locals := 60 }
def qR370 : Room := { frames := 2, cells := 1, slots := 320, locals := 60 }
def qR429 : Room := { frames := 5, cells := 0, slots := 0, locals := 108 }
def qR452 : Room := { frames := 2, cells := 0, slots := 0, locals := 60 }
def qR457 : Room := { frames := 2, cells := 1, slots := 160, locals := 60 }
def qR459 : Room := { frames := 1, cells := 0, slots := 0, locals := 20 }
def qR499 : Room := { frames := 1, cells := 0, slots := 0, locals := 20 }
end
