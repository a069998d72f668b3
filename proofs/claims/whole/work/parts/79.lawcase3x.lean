section VLB
variable {G : GJ} {cc : ByteArray} {nL : Nat} {ret : Option FieldType} {own : String} {Ts : List Cond} {dd kc ks pc : Nat} {ws : va_W} {lv : List (Nat × Value)} {st : List Value}
theorem r_lshl (hG : Cx G cc nL ret own Ts dd) {x : Int64} {y : Int32} (hd : decode cc pc = .ok (.lshl, 1)) (k : V G kc ks ws (pc + 1) lv (.long (x <<< (y.toInt64 &&& 63)) :: st)) : V G kc ks ws pc lv (.int y :: .long x :: st) := fun H locs ls hP hD hS hl => lv_lshl hG.exec hG.code hd rfl (k H locs ls hP hD hS hl)
end VLB
