theorem isDS_same {k : gK} {L : List Nat} {f : Nat → va_E} {d : Nat → Nat} {y y2 : DS} (h : isDS k L f d y) (e : y2 = y) : isDS k L f d y2 := e ▸ h
section
variable {p : Program} {l : Launch} {e : Env} {R : Room} {s : State} {m : MethodId} {args : Array Value} {below : List Frame} {meth : Method} {c : Code} {k : gK} {cc : ByteArray} {own : String} {nL : Nat} {Ts : List Cond} {rd : Prop} {A : Nat → Prop} {H0 : Heap} {Q : State → Prop} {L : List Nat} {cells slots : Nat} {f f0 : Nat → va_E} {pc : Nat} {lv : List (Nat × Value)} {rest st : List Value} {x : Int32}
theorem gx_cons {v : Value} (kk : gW p l e R s m args below meth c k nL rd A H0 Q L cells slots f pc lv (v :: rest)) : gW p l e R s m args below meth c k nL rd A H0 Q L cells slots f pc lv ((some v).toList ++ rest) := kk
theorem gx_nil (kk : gW p l e R s m args below meth c k nL rd A H0 Q L cells slots f pc lv rest) : gW p l e R s m args below meth c k nL rd A H0 Q L cells slots f pc lv ((none : Option Value).toList ++ rest) := kk
end
