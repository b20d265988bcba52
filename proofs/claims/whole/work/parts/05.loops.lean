/-! loops over Vw -/
section PL
variable {G : Gt} {A : Nat → Prop} {p : Program} {l : Launch} {e : Env} {R : Room} {s : State} {m : MethodId} {args : Array Value} {below : List Frame} {meth : Method} {c : Code} {Q : State → Prop} {nL cells slots : Nat} {head : Nat} {st : List Value}
theorem pv_loop (N : Nat) (I : Nat → Prop) (WS : Nat → va_W) (LL : Nat → List (Nat × Value)) (i0 : Nat) (hi : i0 ≤ N) (h0 : I i0)
    (hx : I N → Vw G A p l e R s m args below meth c Q nL cells slots (WS N) (LL N) head st)
    (hs : ∀ i, i < N → I i → (I (i + 1) → Vw G A p l e R s m args below meth c Q nL cells slots (WS (i + 1)) (LL (i + 1)) head st) → Vw G A p l e R s m args below meth c Q nL cells slots (WS i) (LL i) head st) :
    Vw G A p l e R s m args below meth c Q nL cells slots (WS i0) (LL i0) head st := by
  have key : ∀ k i : Nat, i + k = N → I i → Vw G A p l e R s m args below meth c Q nL cells slots (WS i) (LL i) head st := by
    intro k
    induction k with
    | zero => intro i hik hI; have e1 : i = N := hik; subst e1; exact hx hI
    | succ k ih => intro i hik hI; exact hs i (by omega) hI (fun hI2 => ih (i + 1) (by omega) hI2)
  exact key (N - i0) i0 (by omega) h0
theorem pv_loopM {S : Type} (μ : S → Nat) (I : S → Prop) (WS : S → va_W) (LL : S → List (Nat × Value)) (a0 : S) (h0 : I a0)
    (hs : ∀ a, I a → (∀ b, I b → μ b < μ a → Vw G A p l e R s m args below meth c Q nL cells slots (WS b) (LL b) head st) → Vw G A p l e R s m args below meth c Q nL cells slots (WS a) (LL a) head st) :
    Vw G A p l e R s m args below meth c Q nL cells slots (WS a0) (LL a0) head st := by
  have key : ∀ k : Nat, ∀ a, μ a < k → I a → Vw G A p l e R s m args below meth c Q nL cells slots (WS a) (LL a) head st := by
    intro k
    induction k with
    | zero => intro a h; exact absurd h (Nat.not_lt_zero _)
    | succ k ih => intro a h hI; exact hs a hI (fun b hb hlt => ih b (by omega) hb)
  exact key (μ a0 + 1) a0 (Nat.lt_succ_self _) h0
end PL
section PE
variable {G : Gt} {A : Nat → Prop} {p : Program} {l : Launch} {e : Env} {R : Room} {s : State} {m : MethodId} {args : Array Value} {below : List Frame} {meth : Method} {c : Code} {Q : State → Prop} {nL cells slots : Nat} {ws w0 wr : va_W} {ll : List (Nat × Value)} {pc : Nat} {st0 rest : List Value} {cc : ByteArray} {own : String} {av : List Value} {mc ms : Nat}
/-- the same with an answer that is known -/
theorem pv_calliE {Xt : Type} {f : Int32} {w1 : Xt → va_W} (X : Cx G A p s m args c cc nL own) (cut : Cut ws w0 wr)
    (hr : Rn G A p l e R s m args below meth c nL cells slots mc ms w0 av (fun sz => va_Qi (fun r (_ : Xt) => r = f) (qB G (va_A w0 sz) w1) (va_A w0 sz)) pc st0 rest)
    (k : ∀ (x : Xt), Vw G A p l e R s m args below meth c Q nL (cells + mc) (slots + ms) (wr ++ w1 x) ll (pc + 3) (.int f :: rest)) : Vw G A p l e R s m args below meth c Q nL cells slots ws ll pc st0 :=
  pv_calli X cut hr (fun r x h => by have h : r = f := h; subst h; exact k x)
theorem pv_calllE {Xt : Type} {f : Int64} {w1 : Xt → va_W} (X : Cx G A p s m args c cc nL own) (cut : Cut ws w0 wr)
    (hr : Rn G A p l e R s m args below meth c nL cells slots mc ms w0 av (fun sz => va_Ql (fun r (_ : Xt) => r = f) (qB G (va_A w0 sz) w1) (va_A w0 sz)) pc st0 rest)
    (k : ∀ (x : Xt), Vw G A p l e R s m args below meth c Q nL (cells + mc) (slots + ms) (wr ++ w1 x) ll (pc + 3) (.long f :: rest)) : Vw G A p l e R s m args below meth c Q nL cells slots ws ll pc st0 :=
  pv_calll X cut hr (fun r x h => by have h : r = f := h; subst h; exact k x)
end PE
