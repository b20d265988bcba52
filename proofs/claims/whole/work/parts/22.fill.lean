/-! long runs of 'dup, push k, push v, iastore': decoded off the list of the bytes -/
theorem rd_of {code : ByteArray} {pc : Nat} {b : UInt8} {r : List UInt8} (h : code.data.toList.drop pc = b :: r) : ∃ hp : pc < code.size, code[pc] = b := by
  have hl : pc < code.data.toList.length := by
    rcases Nat.lt_or_ge pc code.data.toList.length with q | q
    · exact q
    · rw [List.drop_eq_nil_of_le q] at h; cases h
  have h2 : code.data.toList[pc] = b := by
    have := List.drop_eq_getElem_cons hl
    rw [h] at this
    exact (List.cons.inj this).1.symm
  refine ⟨by simpa using hl, ?_⟩
  rw [← h2]
  rfl
theorem dr_of {code : ByteArray} {pc : Nat} {b : UInt8} {r : List UInt8} (h : code.data.toList.drop pc = b :: r) : code.data.toList.drop (pc + 1) = r := by
  rw [← List.drop_drop, h]; rfl
theorem u1_run {code : ByteArray} {pc : Nat} {b : UInt8} (hp : pc < code.size) (hb : code[pc] = b) : (Reader.u1 : Decoder Nat) code pc = .ok (b.toNat, pc + 1) := by
  subst hb
  unfold Reader.u1
  show (if h : pc < code.size then _ else _ : Decoder Nat) code pc = _
  rw [dif_pos hp]
  rfl
theorem dec_dup {code : ByteArray} {pc : Nat} {r : List UInt8} (h : code.data.toList.drop pc = 89 :: r) : decode code pc = .ok (.dup, 1) := by
  obtain ⟨hp, hb⟩ := rd_of h
  have e := u1_run hp hb
  unfold decode Reader.runAt Decoder.instr
  show (Except.bind (Except.bind ((Reader.u1 : Decoder Nat) code pc) _) _) = _
  rw [e]
  show Except.ok (Instr.dup, pc + 1 - pc) = _
  rw [Nat.add_sub_cancel_left]
theorem dec_iast {code : ByteArray} {pc : Nat} {r : List UInt8} (h : code.data.toList.drop pc = 79 :: r) : decode code pc = .ok (.iastore, 1) := by
  obtain ⟨hp, hb⟩ := rd_of h
  have e := u1_run hp hb
  unfold decode Reader.runAt Decoder.instr
  show (Except.bind (Except.bind ((Reader.u1 : Decoder Nat) code pc) _) _) = _
  rw [e]
  show Except.ok (Instr.iastore, pc + 1 - pc) = _
  rw [Nat.add_sub_cancel_left]
theorem dec_ic0 {code : ByteArray} {pc : Nat} {r : List UInt8} (h : code.data.toList.drop pc = 3 :: r) : decode code pc = .ok (.iconst 0, 1) := by
  obtain ⟨hp, hb⟩ := rd_of h
  have e := u1_run hp hb
  unfold decode Reader.runAt Decoder.instr
  show (Except.bind (Except.bind ((Reader.u1 : Decoder Nat) code pc) _) _) = _
  rw [e]
  show Except.ok (Instr.iconst 0, pc + 1 - pc) = _
  rw [Nat.add_sub_cancel_left]
theorem dec_ic1 {code : ByteArray} {pc : Nat} {r : List UInt8} (h : code.data.toList.drop pc = 4 :: r) : decode code pc = .ok (.iconst 1, 1) := by
  obtain ⟨hp, hb⟩ := rd_of h
  have e := u1_run hp hb
  unfold decode Reader.runAt Decoder.instr
  show (Except.bind (Except.bind ((Reader.u1 : Decoder Nat) code pc) _) _) = _
  rw [e]
  show Except.ok (Instr.iconst 1, pc + 1 - pc) = _
  rw [Nat.add_sub_cancel_left]
theorem dec_ic2 {code : ByteArray} {pc : Nat} {r : List UInt8} (h : code.data.toList.drop pc = 5 :: r) : decode code pc = .ok (.iconst 2, 1) := by
  obtain ⟨hp, hb⟩ := rd_of h
  have e := u1_run hp hb
  unfold decode Reader.runAt Decoder.instr
  show (Except.bind (Except.bind ((Reader.u1 : Decoder Nat) code pc) _) _) = _
  rw [e]
  show Except.ok (Instr.iconst 2, pc + 1 - pc) = _
  rw [Nat.add_sub_cancel_left]
theorem dec_ic3 {code : ByteArray} {pc : Nat} {r : List UInt8} (h : code.data.toList.drop pc = 6 :: r) : decode code pc = .ok (.iconst 3, 1) := by
  obtain ⟨hp, hb⟩ := rd_of h
  have e := u1_run hp hb
  unfold decode Reader.runAt Decoder.instr
  show (Except.bind (Except.bind ((Reader.u1 : Decoder Nat) code pc) _) _) = _
  rw [e]
  show Except.ok (Instr.iconst 3, pc + 1 - pc) = _
  rw [Nat.add_sub_cancel_left]
theorem dec_ic4 {code : ByteArray} {pc : Nat} {r : List UInt8} (h : code.data.toList.drop pc = 7 :: r) : decode code pc = .ok (.iconst 4, 1) := by
  obtain ⟨hp, hb⟩ := rd_of h
  have e := u1_run hp hb
  unfold decode Reader.runAt Decoder.instr
  show (Except.bind (Except.bind ((Reader.u1 : Decoder Nat) code pc) _) _) = _
  rw [e]
  show Except.ok (Instr.iconst 4, pc + 1 - pc) = _
  rw [Nat.add_sub_cancel_left]
theorem dec_ic5 {code : ByteArray} {pc : Nat} {r : List UInt8} (h : code.data.toList.drop pc = 8 :: r) : decode code pc = .ok (.iconst 5, 1) := by
  obtain ⟨hp, hb⟩ := rd_of h
  have e := u1_run hp hb
  unfold decode Reader.runAt Decoder.instr
  show (Except.bind (Except.bind ((Reader.u1 : Decoder Nat) code pc) _) _) = _
  rw [e]
  show Except.ok (Instr.iconst 5, pc + 1 - pc) = _
  rw [Nat.add_sub_cancel_left]
theorem dec_bi {code : ByteArray} {pc : Nat} {b : UInt8} {r : List UInt8} (h : code.data.toList.drop pc = 16 :: b :: r) : decode code pc = .ok (.bipush (Reader.signed 8 b.toNat), 2) := by
  obtain ⟨hp, hb⟩ := rd_of h
  have e := u1_run hp hb
  obtain ⟨hp2, hb2⟩ := rd_of (dr_of h)
  have e2 := u1_run hp2 hb2
  unfold decode Reader.runAt Decoder.instr
  show (Except.bind (Except.bind ((Reader.u1 : Decoder Nat) code pc) _) _) = _
  rw [e]
  show (Except.bind (Except.bind ((Reader.s1 : Decoder Int) code (pc + 1)) _) _) = _
  show (Except.bind (Except.bind (Except.bind ((Reader.u1 : Decoder Nat) code (pc + 1)) _) _) _) = _
  rw [e2]
  show Except.ok (Instr.bipush (Reader.signed 8 b.toNat), pc + 1 + 1 - pc) = _
  rw [show pc + 1 + 1 - pc = 2 by omega]
theorem dec_si {code : ByteArray} {pc : Nat} {b d : UInt8} {r : List UInt8} (h : code.data.toList.drop pc = 17 :: b :: d :: r) : decode code pc = .ok (.sipush (Reader.signed 16 (b.toNat * 256 + d.toNat)), 3) := by
  obtain ⟨hp, hb⟩ := rd_of h
  have e := u1_run hp hb
  obtain ⟨hp2, hb2⟩ := rd_of (dr_of h)
  have e2 := u1_run hp2 hb2
  obtain ⟨hp3, hb3⟩ := rd_of (dr_of (dr_of h))
  have e3 := u1_run hp3 hb3
  unfold decode Reader.runAt Decoder.instr
  show (Except.bind (Except.bind ((Reader.u1 : Decoder Nat) code pc) _) _) = _
  rw [e]
  show (Except.bind (Except.bind (Except.bind (Except.bind ((Reader.u1 : Decoder Nat) code (pc + 1)) _) _) _) _) = _
  rw [e2]
  show (Except.bind (Except.bind (Except.bind (Except.bind ((Reader.u1 : Decoder Nat) code (pc + 1 + 1)) _) _) _) _) = _
  rw [e3]
  show Except.ok (Instr.sipush (Reader.signed 16 (b.toNat * 256 + d.toNat)), pc + 1 + 1 + 1 - pc) = _
  rw [show pc + 1 + 1 + 1 - pc = 3 by omega]
/-- a push of a small number: how long it is -/
def pPush (l : List UInt8) (n : Nat) : Option (Nat × List UInt8) := match l with
  | 3 :: r => if n = 0 then some (1, r) else none
  | 4 :: r => if n = 1 then some (1, r) else none
  | 5 :: r => if n = 2 then some (1, r) else none
  | 6 :: r => if n = 3 then some (1, r) else none
  | 7 :: r => if n = 4 then some (1, r) else none
  | 8 :: r => if n = 5 then some (1, r) else none
  | 16 :: b :: r => if b.toNat = n ∧ n < 128 then some (2, r) else none
  | 17 :: b :: d :: r => if b.toNat * 256 + d.toNat = n ∧ n < 1024 then some (3, r) else none
  | _ => none
def pFill : List UInt8 → Nat → List Nat → Option Nat
  | _, _, [] => some 0
  | 89 :: r, k, v :: vs => (pPush r k).bind fun p => (pPush p.2 v).bind fun q => match q.2 with
    | 79 :: r2 => (pFill r2 (k + 1) vs).map fun t => 2 + p.1 + q.1 + t
    | _ => none
  | _, _, _ => none
theorem bi_v : ∀ n, n < 128 → (Int8.ofInt (Reader.signed 8 n)).toInt32 = nI n := by decide
theorem si_v : ∀ n, n < 1024 → (Int16.ofInt (Reader.signed 16 n)).toInt32 = nI n := by decide +kernel
section PFL
variable {G : Gt} {A : Nat → Prop} {p : Program} {l : Launch} {e : Env} {R : Room} {s : State} {m : MethodId} {args : Array Value} {below : List Frame} {meth : Method} {c : Code} {Q : State → Prop} {nL cells slots : Nat} {ll : List (Nat × Value)} {st : List Value} {cc : ByteArray} {own : String}
theorem pv_push (X : Cx G A p s m args c cc nL own) {ws : va_W} {pc n len : Nat} {suf r : List UInt8} (hd : cc.data.toList.drop pc = suf) (hp : pPush suf n = some (len, r)) (k : cc.data.toList.drop (pc + len) = r → Vw G A p l e R s m args below meth c Q nL cells slots ws ll (pc + len) (.int (nI n) :: st)) : Vw G A p l e R s m args below meth c Q nL cells slots ws ll pc st := by
  unfold pPush at hp
  split at hp
  · split at hp
    · rename_i hn
      cases hp
      subst hn
      exact pv_iconst X (nI 0) (dec_ic0 hd) (by decide) (k (dr_of hd))
    · cases hp
  · split at hp
    · rename_i hn
      cases hp
      subst hn
      exact pv_iconst X (nI 1) (dec_ic1 hd) (by decide) (k (dr_of hd))
    · cases hp
  · split at hp
    · rename_i hn
      cases hp
      subst hn
      exact pv_iconst X (nI 2) (dec_ic2 hd) (by decide) (k (dr_of hd))
    · cases hp
  · split at hp
    · rename_i hn
      cases hp
      subst hn
      exact pv_iconst X (nI 3) (dec_ic3 hd) (by decide) (k (dr_of hd))
    · cases hp
  · split at hp
    · rename_i hn
      cases hp
      subst hn
      exact pv_iconst X (nI 4) (dec_ic4 hd) (by decide) (k (dr_of hd))
    · cases hp
  · split at hp
    · rename_i hn
      cases hp
      subst hn
      exact pv_iconst X (nI 5) (dec_ic5 hd) (by decide) (k (dr_of hd))
    · cases hp
  · split at hp
    · rename_i b r2 hn
      cases hp
      obtain ⟨h1, h2⟩ := hn
      refine pv_bipush X (nI n) (dec_bi hd) ?_ (k ?_)
      · rw [h1]; exact bi_v n h2
      · have := dr_of (dr_of hd); rw [Nat.add_assoc] at this; exact this
    · cases hp
  · split at hp
    · rename_i b d r2 hn
      cases hp
      obtain ⟨h1, h2⟩ := hn
      refine pv_sipush X (nI n) (dec_si hd) ?_ (k ?_)
      · rw [h1]; exact si_v n h2
      · have := dr_of (dr_of (dr_of hd)); rw [Nat.add_assoc, Nat.add_assoc] at this; exact this
    · cases hp
  · cases hp
def updN (f : Nat → Int32) : Nat → List Nat → Nat → Int32
  | _, [] => f
  | k, v :: vs => updN (upd f k (nI v)) (k + 1) vs
theorem pv_fill (X : Cx G A p s m args c cc nL own) {a N q0 : Nat} (hN : N < 2 ^ 31) : ∀ (vals : List Nat) (ws : va_W) (f : Nat → Int32) (k pc len : Nat), pFill (cc.data.toList.drop pc) k vals = some len → k + vals.length ≤ N → ws[q0]? = some (aI G a N f) →
    Vw G A p l e R s m args below meth c Q nL cells slots (ws.set q0 (aI G a N (updN f k vals))) ll (pc + len) (.ref a :: st) → Vw G A p l e R s m args below meth c Q nL cells slots ws ll pc (.ref a :: st)
  | [], ws, f, k, pc, len, hp, hk, hw, kk => by
    have e : len = 0 := by unfold pFill at hp; cases hp; rfl
    subst e
    have e2 : ws.set q0 (aI G a N (updN f k [])) = ws := by
      show ws.set q0 (aI G a N f) = ws
      apply List.ext_getElem?
      intro i
      by_cases hi : i = q0
      · subst hi; rw [List.getElem?_set_self (List.getElem?_eq_some_iff.mp hw).1]; exact hw.symm
      · rw [List.getElem?_set_ne (Ne.symm hi)]
    rw [e2] at kk
    exact kk
  | v :: vs, ws, f, k, pc, len, hp, hk, hw, kk => by
    cases hsuf : cc.data.toList.drop pc with
    | nil => rw [hsuf] at hp; unfold pFill at hp; cases hp
    | cons b0 r0 =>
      rw [hsuf] at hp
      by_cases hb0 : b0 = 89
      · subst hb0
        have hp : ((pPush r0 k).bind fun p => (pPush p.2 v).bind fun q => match q.2 with
          | 79 :: r2 => (pFill r2 (k + 1) vs).map fun t => 2 + p.1 + q.1 + t
          | _ => none) = some len := hp
        cases h1 : pPush r0 k with
        | none => rw [h1] at hp; cases hp
        | some p1 =>
          obtain ⟨l1, s1⟩ := p1
          rw [h1] at hp
          cases h2 : pPush s1 v with
          | none => simp only [Option.bind, h2] at hp; cases hp
          | some p2 =>
            obtain ⟨l2, s2⟩ := p2
            simp only [Option.bind, h2] at hp
            split at hp
            · rename_i r2
              cases h3 : pFill r2 (k + 1) vs with
              | none => rw [h3] at hp; cases hp
              | some t =>
                rw [h3] at hp
                have ht : 2 + l1 + l2 + t = len := by injection hp
                refine pv_dup X (dec_dup hsuf) rfl ?_
                refine pv_push X (dr_of hsuf) h1 (fun g1 => ?_)
                refine pv_push X g1 h2 (fun g2 => ?_)
                have hkN : k < N := by simp only [List.length_cons] at hk; omega
                refine pv_iast X q0 hw (vp_in_nI hkN hN) rfl (dec_iast g2) ?_
                rw [nI_clamp (by omega)]
                have g3 := dr_of g2
                refine pv_fill X hN vs _ (upd f k (nI v)) (k + 1) (pc + 1 + l1 + l2 + 1) t (by rw [g3]; exact h3) (by simp only [List.length_cons] at hk; omega) (List.getElem?_set_self (List.getElem?_eq_some_iff.mp hw).1) ?_
                rw [List.set_set]
                have epc : pc + 1 + l1 + l2 + 1 + t = pc + len := by omega
                rw [epc]
                exact kk
            · cases hp
      · unfold pFill at hp
        split at hp
        · rename_i heq; simp at heq
        · exfalso; simp_all
        · cases hp
theorem updN_at : ∀ (vals : List Nat) (f : Nat → Int32) (k j : Nat), updN f k vals j = if k ≤ j ∧ j < k + vals.length then nI (vals.getD (j - k) 0) else f j
  | [], f, k, j => by
    rw [if_neg (by simp only [List.length_nil]; omega)]; rfl
  | v :: vs, f, k, j => by
    show updN (upd f k (nI v)) (k + 1) vs j = _
    rw [updN_at vs (upd f k (nI v)) (k + 1) j]
    simp only [List.length_cons]
    by_cases h : k + 1 ≤ j ∧ j < k + 1 + vs.length
    · rw [if_pos h, if_pos (by omega)]
      have e : j - k = (j - (k + 1)) + 1 := by omega
      rw [e]; rfl
    · rw [if_neg h]
      unfold upd
      by_cases h2 : j = k
      · subst h2
        rw [if_pos rfl, if_pos (by omega), Nat.sub_self]; rfl
      · rw [if_neg h2, if_neg (by omega)]
end PFL
theorem updN_map (L : List Nat) : updN (fun _ => 0) 0 L = fun j => (L.map nI).getD j 0 := by
  funext j
  rw [updN_at]
  by_cases h : j < L.length
  · rw [if_pos ⟨Nat.zero_le _, by omega⟩, Nat.sub_zero]
    simp [List.getD_eq_getElem?_getD, h]
  · rw [if_neg (by omega)]
    simp [List.getD_eq_getElem?_getD, h]
