section RT
def rm_ (d : Nat) : Room := { frames := d, cells := 0, slots := 0, locals := 32 * d }
variable {p : Program} {l : Launch} {e : Env} {R : Room} {s : State} {m : MethodId} {args : Array Value} {below : List Frame} {meth : Method} {c : Code} {Q : State → Prop} {cells slots mc ms : Nat}
variable {cc : ByteArray} {own : String} {D : va_G} {tc : Nat → ClassId} {sz nL n pc : Nat} {hz : Option Nat} {w : Nat → va_E} {lv : List (Nat × Value)} {tk : Nat → Nat} {post : Option Value → (Nat → va_E) → Prop}
theorem mr_i {v : Int32} (X : cx_ p s m args c cc nL own D tc sz tk) (hr : meth.sig.returnType = some .int) (hk : meth.locks = false) (hd : decode cc pc = .ok (.ireturn, 1)) (hc : cells ≤ mc) (hs : slots ≤ ms) (hp : post (some (.int v)) w) :
    pm_G p l e R s m args below meth c (MQ below (pm_Q D cl_ sz hz n post) args s mc ms (fun q => sz ≤ q)) D cl_ sz nL hz n cells slots w pc lv [.int v] := by
  obtain ⟨⟨c0, S⟩, -⟩ := X
  exact pm_iret S.1 S.2.1 hr hk hd hp hc hs
theorem mr_z {v : Int32} (X : cx_ p s m args c cc nL own D tc sz tk) (hr : meth.sig.returnType = some .boolean) (hk : meth.locks = false) (hd : decode cc pc = .ok (.ireturn, 1)) (hn : narrow .boolean (.int v) = .int v) (hc : cells ≤ mc) (hs : slots ≤ ms) (hp : post (some (.int v)) w) :
    pm_G p l e R s m args below meth c (MQ below (pm_Q D cl_ sz hz n post) args s mc ms (fun q => sz ≤ q)) D cl_ sz nL hz n cells slots w pc lv [.int v] := by
  obtain ⟨⟨c0, S⟩, -⟩ := X
  exact pm_zret S.1 S.2.1 hr hn hk hd hp hc hs
theorem mr_l {v : Int64} (X : cx_ p s m args c cc nL own D tc sz tk) (hr : meth.sig.returnType = some .long) (hk : meth.locks = false) (hd : decode cc pc = .ok (.lreturn, 1)) (hc : cells ≤ mc) (hs : slots ≤ ms) (hp : post (some (.long v)) w) :
    pm_G p l e R s m args below meth c (MQ below (pm_Q D cl_ sz hz n post) args s mc ms (fun q => sz ≤ q)) D cl_ sz nL hz n cells slots w pc lv [.long v] := by
  obtain ⟨⟨c0, S⟩, -⟩ := X
  exact pm_lret S.1 S.2.1 hr hk hd hp hc hs
theorem mr_a {a : Nat} {C : String} (X : cx_ p s m args c cc nL own D tc sz tk) (hr : meth.sig.returnType = some (.object C)) (hk : meth.locks = false) (hd : decode cc pc = .ok (.areturn, 1)) (hc : cells ≤ mc) (hs : slots ≤ ms) (hp : post (some (.ref a)) w) :
    pm_G p l e R s m args below meth c (MQ below (pm_Q D cl_ sz hz n post) args s mc ms (fun q => sz ≤ q)) D cl_ sz nL hz n cells slots w pc lv [.ref a] := by
  obtain ⟨⟨c0, S⟩, -⟩ := X
  exact pm_aret S.1 S.2.1 hr hk hd hp hc hs
theorem mr_v (X : cx_ p s m args c cc nL own D tc sz tk) (hr : meth.sig.returnType = none) (hk : meth.locks = false) (hd : decode cc pc = .ok (.return_, 1)) (hc : cells ≤ mc) (hs : slots ≤ ms) (hp : post none w) :
    pm_G p l e R s m args below meth c (MQ below (pm_Q D cl_ sz hz n post) args s mc ms (fun q => sz ≤ q)) D cl_ sz nL hz n cells slots w pc lv [] := by
  obtain ⟨⟨c0, S⟩, -⟩ := X
  exact pm_vret S.1 S.2.1 hr hk hd hp hc hs
theorem pm_G.wd {hz : Option Nat} {cl : List vw_C} {w' : Nat → va_E} {st : List Value} (h : w = w') (k : pm_G p l e R s m args below meth c Q D cl sz nL hz n cells slots w' pc lv st) : pm_G p l e R s m args below meth c Q D cl sz nL hz n cells slots w pc lv st := h ▸ k
theorem pm_G.st {hz : Option Nat} {cl : List vw_C} {st st' : List Value} (h : st = st') (k : pm_G p l e R s m args below meth c Q D cl sz nL hz n cells slots w pc lv st') : pm_G p l e R s m args below meth c Q D cl sz nL hz n cells slots w pc lv st := h ▸ k
end RT
