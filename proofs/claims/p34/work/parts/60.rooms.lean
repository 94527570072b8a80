/-! ROOMS of the hand-made contracts -/
def qR31 : Room := { frames := 1, cells := 0, slots := 0, locals := 20 }
def qR372 : Room := { frames := 2, cells := 1, slots := 320, locals := 60 }
def qR376 : Room := { frames := 1, cells := 0, slots := 0, locals := 20 }
def qR425 : Room := { frames := 1, cells := 0, slots := 0, locals := 20 }
def qR448 : Room := { frames := 2, cells := 0, slots := 0, locals := 60 }
def qR453 : Room := { frames := 2, cells := 1, slots := 160, locals := 60 }
def qR455 : Room := { frames := 1, cells := 0, slots := 0, locals := 20 }
def qR495 : Room := { frames := 1, cells := 0, slots := 0, locals := 20 }
