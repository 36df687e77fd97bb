abbrev vCl : List vw_C := []
def GxS (s : State) (sd : Nat → Nat) (F : Nat → Prop) : Prop := True
