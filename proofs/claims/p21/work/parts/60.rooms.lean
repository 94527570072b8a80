/-! ROOMS of the hand-made contracts -/
noncomputable section
def qR31 : Room := { frames := 2, cells := 0, slots := 0, locals := 60 }
def qR372 : Room := { frames := 2, cells := 1, slots := 320, locals := 60 }
def qR431 : Room := { frames := 5, cells := 0, slots := 0, locals := 108 }
def qR454 : Room := { frames := 2, cells := 0, slots := 0, locals := 60 }
def qR459 : Room := { frames := 2, cells := 1, slots := 160, locals := 60 }
def qR461 : Room := { frames := 1, cells := 0, slots := 0, locals := 20 }
def qR501 : Room := { frames := 1, cells := 0, slots := 0, locals := 20 }
end
