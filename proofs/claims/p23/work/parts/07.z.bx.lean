def kk_bx (p : Prop) : Prop := p
