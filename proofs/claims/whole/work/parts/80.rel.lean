def Rel (u : cS) (v : mS) : Prop := cInv u ∧ mInv v
theorem rel_ok : stp_all Rel := sorry
