/-! ROOMS of the hand-made contracts -/
noncomputable section
def qR27 : Room := { frames := 2, cells := 0, slots := 0, locals := 60 }
def qR368 : Room := { frames := 2, cells := 1, slots := 320, locals := 60 }
def qR427 : Room := { frames := 5, cells := 0, slots := 0, locals := 108 }
def qR450 : Room := { frames := 2, cells := 0, slots := 0, locals := 60 }
def qR455 : Room := { frames := 2, cells := 1, slots := 160, locals := 60 }
def qR457 : Room := { frames := 1, cells := 0, slots := 0, locals := 20 }
def qR497 : Room := { frames := 1, cells := 0, slots := 0, locals := 20 }
end
