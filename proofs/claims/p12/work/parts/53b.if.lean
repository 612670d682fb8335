def hm_if (x : Int) (P : Prop) : Prop := x = 1 ↔ P
theorem hm_if.mp {x : Int} {P : Prop} (h : hm_if x P) (hx : x = 1) : P := Iff.mp h hx
theorem hm_if.mpr {x : Int} {P : Prop} (h : hm_if x P) (hp : P) : x = 1 := Iff.mpr h hp
