section GP
variable {p : Program} {l : Launch} {e : Env} {R : Room} {s : State} {m : MethodId} {args : Array Value} {below : List Frame} {meth : Method} {c : Code} {Q : State → Prop}
variable {cc : ByteArray} {nL : Nat} {Ts : List Cond} {own : String} {E : gT} {σ σ' : gS} {cells slots pc : Nat} {lv lv' : List (Nat × Value)} {rest st0 : List Value}
theorem g_lk (S : CallFix p m c cc nL s args Ts own) {dflt : Int} {ps : Array (Int × Int)} {len : Nat} {x : Int32} {off : Int} (tgt : Nat) (d : decode cc pc = .ok (.lookupswitch dflt ps, len)) (hp : (ps.toList.zip (ps.toList.drop 1)).all (fun (a, next) => a.1 < next.1) = true) (ho : Op.lookupswitch.offset ps.toList dflt x.toInt = off) (ht : (pc : Int) + off = (tgt : Int)) (kk : gJ p l e R s m args below meth c Q nL E σ cells slots tgt lv rest) : gJ p l e R s m args below meth c Q nL E σ cells slots pc lv (.int x :: rest) :=
  fun H locs ls hP hS hl => lv_lookup S.1 S.2.1 d hp ho ht (kk H locs ls hP hS hl)
end GP
/-- the lesser of two, as the library has it -/
def gmin (x y : Int32) : Int32 := if y < x then y else x
theorem g_nb {r : Int32} (h : r = 0 ∨ r = 1) : narrow .boolean (.int r) = .int r := by
  rcases h with rfl | rfl <;> rfl
section GP2
variable {p : Program} {l : Launch} {e : Env} {R : Room} {s : State} {m : MethodId} {args : Array Value} {below : List Frame} {meth : Method} {c : Code} {Q : State → Prop}
variable {nL : Nat} {E : gT} {σ : gS} {cells slots pc : Nat} {lv : List (Nat × Value)} {rest : List Value}
/-- the world's numbers by a name -/
theorem g_nm (k : ∀ τ : gS, τ = σ → gJ p l e R s m args below meth c Q nL E τ cells slots pc lv rest) : gJ p l e R s m args below meth c Q nL E σ cells slots pc lv rest := k σ rfl
end GP2
section GP3
variable {p : Program} {l : Launch} {e : Env} {R : Room} {s : State} {m : MethodId} {args : Array Value} {below : List Frame} {meth : Method} {c : Code} {Q : State → Prop}
variable {cc : ByteArray} {nL : Nat} {Ts : List Cond} {own : String} {E : gT} {σ : gS} {cells slots pc : Nat} {lv : List (Nat × Value)} {rest : List Value}
theorem g_mn (S : CallFix p m c cc nL s args Ts own) {index : Nat} (h1 : Cond.methodLink own index Lib.Math.min.name ∈ Ts) (h2 : Cond.static Lib.Math.min.name ∈ Ts) (h3 : Cond.initialized "java/lang/Math" ∈ Ts) (h4 : Cond.code Lib.Math.min.name Lib.Math.min.code 2 (some .int) ∈ Ts) (hR : 1 ≤ R.frames) (hR2 : (rest.map fun v => v.category).sum + 13 ≤ R.locals) (hc : cells ≤ R.cells) (hs : slots ≤ R.slots) {x y : Int32} (d : decode cc pc = .ok (.invokestatic index, 3))
    (kk : gJ p l e R s m args below meth c Q nL E σ cells slots (pc + 3) lv (.int (gmin x y) :: rest)) : gJ p l e R s m args below meth c Q nL E σ cells slots pc lv (.int y :: .int x :: rest) := g_min S h1 h2 h3 h4 hR hR2 hc hs d kk
end GP3
section GP4
variable {p : Program} {l : Launch} {e : Env} {R : Room} {s : State} {m : MethodId} {args : Array Value} {below : List Frame} {meth : Method} {c : Code} {Q : State → Prop}
variable {nL : Nat} {E : gT} {σ : gS} {cells slots pc : Nat} {lv : List (Nat × Value)} {rest : List Value}
theorem g_top {x y : Int32} (h : x = y) (k : gJ p l e R s m args below meth c Q nL E σ cells slots pc lv (.int y :: rest)) : gJ p l e R s m args below meth c Q nL E σ cells slots pc lv (.int x :: rest) := by
  subst h; exact k
end GP4
theorem gT1 : gTw 1 := rfl
section GP5
variable {p : Program} {l : Launch} {e : Env} {R : Room} {s : State} {m : MethodId} {args : Array Value} {below : List Frame} {meth : Method} {c : Code} {Q : State → Prop}
variable {nL : Nat} {E : gT} {σ : gS} {cells slots pc : Nat} {lv : List (Nat × Value)} {rest : List Value}
theorem g_nl {x : Int64} (k : ∀ y : Int64, y = x → gJ p l e R s m args below meth c Q nL E σ cells slots pc lv (.long y :: rest)) : gJ p l e R s m args below meth c Q nL E σ cells slots pc lv (.long x :: rest) := k x rfl
end GP5
