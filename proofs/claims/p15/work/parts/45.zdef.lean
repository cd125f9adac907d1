/-- a case's size -/
def cqZ (e : va_E) : Int := match e with
  | .inr (_, [_, .int z, _, _]) => z.toInt
  | _ => 0
