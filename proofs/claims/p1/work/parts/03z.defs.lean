/-- the four ways of the wind -/
def kway (w : Int32) : Bool := decide (w = 110) || decide (w = 101) || decide (w = 115) || decide (w = 119)
