section NF
def F_D : pm_FT := fun k => match k with
  | 12 => some (0, 0, .object "LatticeWraps$Shaker", true)
  | 23 => some (0, 1, .object "LatticeWraps$Matrix", true)
  | 27 => some (0, 2, .object "LatticeWraps$Matrix", true)
  | 30 => some (0, 3, .object "LatticeWraps$Matrix", true)
  | 33 => some (0, 4, .object "LatticeWraps$Matrix", true)
  | 36 => some (0, 5, .object "LatticeWraps$Matrix", true)
  | 39 => some (0, 6, .object "LatticeWraps$Matrix", true)
  | 42 => some (0, 7, .array .int, true)
  | 49 => some (1, 2, .long, false)
  | 70 => some (1, 3, .object "LatticeWraps$Matrix", true)
  | 77 => some (1, 6, .object "LatticeWraps$Matrix", true)
  | 111 => some (1, 4, .object "LatticeWraps$Matrix", true)
  | 128 => some (1, 1, .long, false)
  | _ => none
def K_D : Nat → Option Value := fun k => match k with
  | _ => none
set_option maxHeartbeats 2000000 in
theorem F_D_ok {args : Array Value} {s : State} (hts : ∀ w ∈ gw_, w.before args s = true) (hN : ∀ w ∈ nw_, va_Nw w s) : ∀ k ci j ty fin, F_D k = some (ci, j, ty, fin) → pm_fok R_D cl_ args s k ci j ty fin := by
  intro k ci j ty fin h
  unfold F_D at h
  split at h
  · cases h
    exact ⟨R_D, T_D, 8, t_D, rfl, by decide, fun w hw => hts w (u_D_in w hw), t_D_ok, n_D, rfl, by decide +kernel, Or.inl ⟨_, hts _ (gm_ 96 (by decide +kernel) (by decide +kernel)), fun _ h => h⟩⟩
  · cases h
    exact ⟨R_D, T_D, 8, t_D, rfl, by decide, fun w hw => hts w (u_D_in w hw), t_D_ok, n_D, rfl, by decide +kernel, Or.inl ⟨_, hts _ (gm_ 98 (by decide +kernel) (by decide +kernel)), fun _ h => h⟩⟩
  · cases h
    exact ⟨R_D, T_D, 8, t_D, rfl, by decide, fun w hw => hts w (u_D_in w hw), t_D_ok, n_D, rfl, by decide +kernel, Or.inl ⟨_, hts _ (gm_ 99 (by decide +kernel) (by decide +kernel)), fun _ h => h⟩⟩
  · cases h
    exact ⟨R_D, T_D, 8, t_D, rfl, by decide, fun w hw => hts w (u_D_in w hw), t_D_ok, n_D, rfl, by decide +kernel, Or.inl ⟨_, hts _ (gm_ 100 (by decide +kernel) (by decide +kernel)), fun _ h => h⟩⟩
  · cases h
    exact ⟨R_D, T_D, 8, t_D, rfl, by decide, fun w hw => hts w (u_D_in w hw), t_D_ok, n_D, rfl, by decide +kernel, Or.inl ⟨_, hts _ (gm_ 101 (by decide +kernel) (by decide +kernel)), fun _ h => h⟩⟩
  · cases h
    exact ⟨R_D, T_D, 8, t_D, rfl, by decide, fun w hw => hts w (u_D_in w hw), t_D_ok, n_D, rfl, by decide +kernel, Or.inl ⟨_, hts _ (gm_ 102 (by decide +kernel) (by decide +kernel)), fun _ h => h⟩⟩
  · cases h
    exact ⟨R_D, T_D, 8, t_D, rfl, by decide, fun w hw => hts w (u_D_in w hw), t_D_ok, n_D, rfl, by decide +kernel, Or.inl ⟨_, hts _ (gm_ 103 (by decide +kernel) (by decide +kernel)), fun _ h => h⟩⟩
  · cases h
    exact ⟨R_D, T_D, 8, t_D, rfl, by decide, fun w hw => hts w (u_D_in w hw), t_D_ok, n_D, rfl, by decide +kernel, Or.inl ⟨_, hts _ (gm_ 105 (by decide +kernel) (by decide +kernel)), fun _ h => h⟩⟩
  · cases h
    exact ⟨R_K, T_K, 8, t_K, rfl, by decide, fun w hw => hts w (u_K_in w hw), t_K_ok, n_K, rfl, by decide +kernel, Or.inr ⟨_, "LatticeWraps", va_Nw.use rfl (hN _ (List.mem_of_getElem? (i := 7) (by decide +kernel))), fun _ h => h⟩⟩
  · cases h
    exact ⟨R_K, T_K, 8, t_K, rfl, by decide, fun w hw => hts w (u_K_in w hw), t_K_ok, n_K, rfl, by decide +kernel, Or.inr ⟨_, "LatticeWraps", va_Nw.use rfl (hN _ (List.mem_of_getElem? (i := 9) (by decide +kernel))), fun _ h => h⟩⟩
  · cases h
    exact ⟨R_K, T_K, 8, t_K, rfl, by decide, fun w hw => hts w (u_K_in w hw), t_K_ok, n_K, rfl, by decide +kernel, Or.inr ⟨_, "LatticeWraps", va_Nw.use rfl (hN _ (List.mem_of_getElem? (i := 11) (by decide +kernel))), fun _ h => h⟩⟩
  · cases h
    exact ⟨R_K, T_K, 8, t_K, rfl, by decide, fun w hw => hts w (u_K_in w hw), t_K_ok, n_K, rfl, by decide +kernel, Or.inr ⟨_, "LatticeWraps", va_Nw.use rfl (hN _ (List.mem_of_getElem? (i := 10) (by decide +kernel))), fun _ h => h⟩⟩
  · cases h
    exact ⟨R_K, T_K, 8, t_K, rfl, by decide, fun w hw => hts w (u_K_in w hw), t_K_ok, n_K, rfl, by decide +kernel, Or.inr ⟨_, "LatticeWraps", va_Nw.use rfl (hN _ (List.mem_of_getElem? (i := 6) (by decide +kernel))), fun _ h => h⟩⟩
  · cases h
theorem X_D {p : Program} {s : State} {m : MethodId} {args : Array Value} {c : Code} {cc : ByteArray} {nL : Nat} {D : va_G} {tc : Nat → ClassId} {c0 : Cond} (CF : CallFix p m c cc nL s args (c0 :: gw_) R_D) (hK : va_K D cl_ (pm_T tc) s) (hN : ∀ w ∈ nw_, va_Nw w s) : pm_X p s m args c cc R_D D cl_ tc F_D K_D := by
  obtain ⟨h1, h2, h3, h4, h5⟩ := CF
  have hts : ∀ w ∈ gw_, w.before args s = true := fun w h => h5 w (List.mem_cons_of_mem _ h)
  refine ⟨h1, h2, h4, hK, F_D_ok hts hN, fun k v h => ?_, fun k v h => ?_⟩
  · unfold K_D at h
    cases h
  · unfold K_D at h
    cases h
def F_K : pm_FT := fun k => match k with
  | 9 => some (1, 0, .boolean, false)
  | 15 => some (1, 1, .long, false)
  | 19 => some (1, 2, .long, false)
  | 27 => some (1, 3, .object "LatticeWraps$Matrix", true)
  | 31 => some (1, 4, .object "LatticeWraps$Matrix", true)
  | 34 => some (1, 5, .object "LatticeWraps$Matrix", true)
  | 37 => some (1, 6, .object "LatticeWraps$Matrix", true)
  | 40 => some (1, 7, .array .int, true)
  | _ => none
def K_K : Nat → Option Value := fun k => match k with
  | _ => none
set_option maxHeartbeats 2000000 in
theorem F_K_ok {args : Array Value} {s : State} (hts : ∀ w ∈ gw_, w.before args s = true) (hN : ∀ w ∈ nw_, va_Nw w s) : ∀ k ci j ty fin, F_K k = some (ci, j, ty, fin) → pm_fok R_K cl_ args s k ci j ty fin := by
  intro k ci j ty fin h
  unfold F_K at h
  split at h
  · cases h
    exact ⟨R_K, T_K, 8, t_K, rfl, by decide, fun w hw => hts w (u_K_in w hw), t_K_ok, n_K, rfl, by decide +kernel, Or.inl ⟨_, hts _ (gm_ 130 (by decide +kernel) (by decide +kernel)), fun _ h => h⟩⟩
  · cases h
    exact ⟨R_K, T_K, 8, t_K, rfl, by decide, fun w hw => hts w (u_K_in w hw), t_K_ok, n_K, rfl, by decide +kernel, Or.inl ⟨_, hts _ (gm_ 132 (by decide +kernel) (by decide +kernel)), fun _ h => h⟩⟩
  · cases h
    exact ⟨R_K, T_K, 8, t_K, rfl, by decide, fun w hw => hts w (u_K_in w hw), t_K_ok, n_K, rfl, by decide +kernel, Or.inl ⟨_, hts _ (gm_ 134 (by decide +kernel) (by decide +kernel)), fun _ h => h⟩⟩
  · cases h
    exact ⟨R_K, T_K, 8, t_K, rfl, by decide, fun w hw => hts w (u_K_in w hw), t_K_ok, n_K, rfl, by decide +kernel, Or.inl ⟨_, hts _ (gm_ 137 (by decide +kernel) (by decide +kernel)), fun _ h => h⟩⟩
  · cases h
    exact ⟨R_K, T_K, 8, t_K, rfl, by decide, fun w hw => hts w (u_K_in w hw), t_K_ok, n_K, rfl, by decide +kernel, Or.inl ⟨_, hts _ (gm_ 139 (by decide +kernel) (by decide +kernel)), fun _ h => h⟩⟩
  · cases h
    exact ⟨R_K, T_K, 8, t_K, rfl, by decide, fun w hw => hts w (u_K_in w hw), t_K_ok, n_K, rfl, by decide +kernel, Or.inl ⟨_, hts _ (gm_ 141 (by decide +kernel) (by decide +kernel)), fun _ h => h⟩⟩
  · cases h
    exact ⟨R_K, T_K, 8, t_K, rfl, by decide, fun w hw => hts w (u_K_in w hw), t_K_ok, n_K, rfl, by decide +kernel, Or.inl ⟨_, hts _ (gm_ 142 (by decide +kernel) (by decide +kernel)), fun _ h => h⟩⟩
  · cases h
    exact ⟨R_K, T_K, 8, t_K, rfl, by decide, fun w hw => hts w (u_K_in w hw), t_K_ok, n_K, rfl, by decide +kernel, Or.inl ⟨_, hts _ (gm_ 144 (by decide +kernel) (by decide +kernel)), fun _ h => h⟩⟩
  · cases h
theorem X_K {p : Program} {s : State} {m : MethodId} {args : Array Value} {c : Code} {cc : ByteArray} {nL : Nat} {D : va_G} {tc : Nat → ClassId} {c0 : Cond} (CF : CallFix p m c cc nL s args (c0 :: gw_) R_K) (hK : va_K D cl_ (pm_T tc) s) (hN : ∀ w ∈ nw_, va_Nw w s) : pm_X p s m args c cc R_K D cl_ tc F_K K_K := by
  obtain ⟨h1, h2, h3, h4, h5⟩ := CF
  have hts : ∀ w ∈ gw_, w.before args s = true := fun w h => h5 w (List.mem_cons_of_mem _ h)
  refine ⟨h1, h2, h4, hK, F_K_ok hts hN, fun k v h => ?_, fun k v h => ?_⟩
  · unfold K_K at h
    cases h
  · unfold K_K at h
    cases h
def F_M : pm_FT := fun k => match k with
  | 9 => some (2, 0, .int, true)
  | 15 => some (2, 1, .int, true)
  | 18 => some (2, 2, .array .int, true)
  | _ => none
def K_M : Nat → Option Value := fun k => match k with
  | _ => none
set_option maxHeartbeats 2000000 in
theorem F_M_ok {args : Array Value} {s : State} (hts : ∀ w ∈ gw_, w.before args s = true) (hN : ∀ w ∈ nw_, va_Nw w s) : ∀ k ci j ty fin, F_M k = some (ci, j, ty, fin) → pm_fok R_M cl_ args s k ci j ty fin := by
  intro k ci j ty fin h
  unfold F_M at h
  split at h
  · cases h
    exact ⟨R_M, T_M, 3, t_M, rfl, by decide, fun w hw => hts w (u_M_in w hw), t_M_ok, n_M, rfl, by decide +kernel, Or.inl ⟨_, hts _ (gm_ 85 (by decide +kernel) (by decide +kernel)), fun _ h => h⟩⟩
  · cases h
    exact ⟨R_M, T_M, 3, t_M, rfl, by decide, fun w hw => hts w (u_M_in w hw), t_M_ok, n_M, rfl, by decide +kernel, Or.inl ⟨_, hts _ (gm_ 86 (by decide +kernel) (by decide +kernel)), fun _ h => h⟩⟩
  · cases h
    exact ⟨R_M, T_M, 3, t_M, rfl, by decide, fun w hw => hts w (u_M_in w hw), t_M_ok, n_M, rfl, by decide +kernel, Or.inl ⟨_, hts _ (gm_ 87 (by decide +kernel) (by decide +kernel)), fun _ h => h⟩⟩
  · cases h
theorem X_M {p : Program} {s : State} {m : MethodId} {args : Array Value} {c : Code} {cc : ByteArray} {nL : Nat} {D : va_G} {tc : Nat → ClassId} {c0 : Cond} (CF : CallFix p m c cc nL s args (c0 :: gw_) R_M) (hK : va_K D cl_ (pm_T tc) s) (hN : ∀ w ∈ nw_, va_Nw w s) : pm_X p s m args c cc R_M D cl_ tc F_M K_M := by
  obtain ⟨h1, h2, h3, h4, h5⟩ := CF
  have hts : ∀ w ∈ gw_, w.before args s = true := fun w h => h5 w (List.mem_cons_of_mem _ h)
  refine ⟨h1, h2, h4, hK, F_M_ok hts hN, fun k v h => ?_, fun k v h => ?_⟩
  · unfold K_M at h
    cases h
  · unfold K_M at h
    cases h
def F_S : pm_FT := fun k => match k with
  | 9 => some (3, 0, .array .long, true)
  | 15 => some (3, 1, .array .long, true)
  | 18 => some (3, 2, .array .long, true)
  | 21 => some (3, 3, .int, false)
  | _ => none
def K_S : Nat → Option Value := fun k => match k with
  | 31 => some (.long (255))
  | 37 => some (.long (-9223372036854775808))
  | 51 => some (.int (65535))
  | 81 => some (.long (-1))
  | _ => none
set_option maxHeartbeats 2000000 in
theorem F_S_ok {args : Array Value} {s : State} (hts : ∀ w ∈ gw_, w.before args s = true) (hN : ∀ w ∈ nw_, va_Nw w s) : ∀ k ci j ty fin, F_S k = some (ci, j, ty, fin) → pm_fok R_S cl_ args s k ci j ty fin := by
  intro k ci j ty fin h
  unfold F_S at h
  split at h
  · cases h
    exact ⟨R_S, T_S, 4, t_S, rfl, by decide, fun w hw => hts w (u_S_in w hw), t_S_ok, n_S, rfl, by decide +kernel, Or.inl ⟨_, hts _ (gm_ 65 (by decide +kernel) (by decide +kernel)), fun _ h => h⟩⟩
  · cases h
    exact ⟨R_S, T_S, 4, t_S, rfl, by decide, fun w hw => hts w (u_S_in w hw), t_S_ok, n_S, rfl, by decide +kernel, Or.inl ⟨_, hts _ (gm_ 66 (by decide +kernel) (by decide +kernel)), fun _ h => h⟩⟩
  · cases h
    exact ⟨R_S, T_S, 4, t_S, rfl, by decide, fun w hw => hts w (u_S_in w hw), t_S_ok, n_S, rfl, by decide +kernel, Or.inl ⟨_, hts _ (gm_ 67 (by decide +kernel) (by decide +kernel)), fun _ h => h⟩⟩
  · cases h
    exact ⟨R_S, T_S, 4, t_S, rfl, by decide, fun w hw => hts w (u_S_in w hw), t_S_ok, n_S, rfl, by decide +kernel, Or.inl ⟨_, hts _ (gm_ 68 (by decide +kernel) (by decide +kernel)), fun _ h => h⟩⟩
  · cases h
theorem X_S {p : Program} {s : State} {m : MethodId} {args : Array Value} {c : Code} {cc : ByteArray} {nL : Nat} {D : va_G} {tc : Nat → ClassId} {c0 : Cond} (CF : CallFix p m c cc nL s args (c0 :: gw_) R_S) (hK : va_K D cl_ (pm_T tc) s) (hN : ∀ w ∈ nw_, va_Nw w s) : pm_X p s m args c cc R_S D cl_ tc F_S K_S := by
  obtain ⟨h1, h2, h3, h4, h5⟩ := CF
  have hts : ∀ w ∈ gw_, w.before args s = true := fun w h => h5 w (List.mem_cons_of_mem _ h)
  refine ⟨h1, h2, h4, hK, F_S_ok hts hN, fun k v h => ?_, fun k v h => ?_⟩
  · unfold K_S at h
    split at h
    · cases h
    · cases h
    · cases h
      exact hts _ (gm_ 333 (by decide +kernel) (by decide +kernel))
    · cases h
    · cases h
  · unfold K_S at h
    split at h
    · cases h
      exact hts _ (gm_ 289 (by decide +kernel) (by decide +kernel))
    · cases h
      exact hts _ (gm_ 294 (by decide +kernel) (by decide +kernel))
    · cases h
    · cases h
      exact hts _ (gm_ 316 (by decide +kernel) (by decide +kernel))
    · cases h
def F_W : pm_FT := fun k => match k with
  | 9 => some (4, 0, .boolean, false)
  | 15 => some (4, 1, .array .int, true)
  | _ => none
def K_W : Nat → Option Value := fun k => match k with
  | _ => none
set_option maxHeartbeats 2000000 in
theorem F_W_ok {args : Array Value} {s : State} (hts : ∀ w ∈ gw_, w.before args s = true) (hN : ∀ w ∈ nw_, va_Nw w s) : ∀ k ci j ty fin, F_W k = some (ci, j, ty, fin) → pm_fok R_W cl_ args s k ci j ty fin := by
  intro k ci j ty fin h
  unfold F_W at h
  split at h
  · cases h
    exact ⟨R_W, T_W, 2, t_W, rfl, by decide, fun w hw => hts w (u_W_in w hw), t_W_ok, n_W, rfl, by decide +kernel, Or.inl ⟨_, hts _ (gm_ 168 (by decide +kernel) (by decide +kernel)), fun _ h => h⟩⟩
  · cases h
    exact ⟨R_W, T_W, 2, t_W, rfl, by decide, fun w hw => hts w (u_W_in w hw), t_W_ok, n_W, rfl, by decide +kernel, Or.inl ⟨_, hts _ (gm_ 170 (by decide +kernel) (by decide +kernel)), fun _ h => h⟩⟩
  · cases h
theorem X_W {p : Program} {s : State} {m : MethodId} {args : Array Value} {c : Code} {cc : ByteArray} {nL : Nat} {D : va_G} {tc : Nat → ClassId} {c0 : Cond} (CF : CallFix p m c cc nL s args (c0 :: gw_) R_W) (hK : va_K D cl_ (pm_T tc) s) (hN : ∀ w ∈ nw_, va_Nw w s) : pm_X p s m args c cc R_W D cl_ tc F_W K_W := by
  obtain ⟨h1, h2, h3, h4, h5⟩ := CF
  have hts : ∀ w ∈ gw_, w.before args s = true := fun w h => h5 w (List.mem_cons_of_mem _ h)
  refine ⟨h1, h2, h4, hK, F_W_ok hts hN, fun k v h => ?_, fun k v h => ?_⟩
  · unfold K_W at h
    cases h
  · unfold K_W at h
    cases h
def F_L : pm_FT := fun k => match k with
  | 11 => some (5, 0, .array (.object "LatticeWraps$Key"), true)
  | 17 => some (5, 1, .array (.object "LatticeWraps$Wrap"), true)
  | 24 => some (5, 2, .object "LatticeWraps$Desk", true)
  | 34 => some (0, 0, .object "LatticeWraps$Shaker", true)
  | 42 => some (1, 2, .long, false)
  | 46 => some (1, 0, .boolean, false)
  | 54 => some (4, 1, .array .int, true)
  | 62 => some (4, 0, .boolean, false)
  | 83 => some (1, 7, .array .int, true)
  | 103 => some (0, 6, .object "LatticeWraps$Matrix", true)
  | _ => none
def K_L : Nat → Option Value := fun k => match k with
  | _ => none
set_option maxHeartbeats 2000000 in
theorem F_L_ok {args : Array Value} {s : State} (hts : ∀ w ∈ gw_, w.before args s = true) (hN : ∀ w ∈ nw_, va_Nw w s) : ∀ k ci j ty fin, F_L k = some (ci, j, ty, fin) → pm_fok R_L cl_ args s k ci j ty fin := by
  intro k ci j ty fin h
  unfold F_L at h
  split at h
  · cases h
    exact ⟨R_L, T_L, 3, t_L, rfl, by decide, fun w hw => hts w (u_L_in w hw), t_L_ok, n_L, rfl, by decide +kernel, Or.inl ⟨_, hts _ (gm_ 177 (by decide +kernel) (by decide +kernel)), fun _ h => h⟩⟩
  · cases h
    exact ⟨R_L, T_L, 3, t_L, rfl, by decide, fun w hw => hts w (u_L_in w hw), t_L_ok, n_L, rfl, by decide +kernel, Or.inl ⟨_, hts _ (gm_ 178 (by decide +kernel) (by decide +kernel)), fun _ h => h⟩⟩
  · cases h
    exact ⟨R_L, T_L, 3, t_L, rfl, by decide, fun w hw => hts w (u_L_in w hw), t_L_ok, n_L, rfl, by decide +kernel, Or.inl ⟨_, hts _ (gm_ 179 (by decide +kernel) (by decide +kernel)), fun _ h => h⟩⟩
  · cases h
    exact ⟨R_D, T_D, 8, t_D, rfl, by decide, fun w hw => hts w (u_D_in w hw), t_D_ok, n_D, rfl, by decide +kernel, Or.inr ⟨_, "LatticeWraps", va_Nw.use rfl (hN _ (List.mem_of_getElem? (i := 2) (by decide +kernel))), fun _ h => h⟩⟩
  · cases h
    exact ⟨R_K, T_K, 8, t_K, rfl, by decide, fun w hw => hts w (u_K_in w hw), t_K_ok, n_K, rfl, by decide +kernel, Or.inr ⟨_, "LatticeWraps", va_Nw.use rfl (hN _ (List.mem_of_getElem? (i := 8) (by decide +kernel))), fun _ h => h⟩⟩
  · cases h
    exact ⟨R_K, T_K, 8, t_K, rfl, by decide, fun w hw => hts w (u_K_in w hw), t_K_ok, n_K, rfl, by decide +kernel, Or.inr ⟨_, "LatticeWraps", va_Nw.use rfl (hN _ (List.mem_of_getElem? (i := 5) (by decide +kernel))), fun _ h => h⟩⟩
  · cases h
    exact ⟨R_W, T_W, 2, t_W, rfl, by decide, fun w hw => hts w (u_W_in w hw), t_W_ok, n_W, rfl, by decide +kernel, Or.inr ⟨_, "LatticeWraps", va_Nw.use rfl (hN _ (List.mem_of_getElem? (i := 15) (by decide +kernel))), fun _ h => h⟩⟩
  · cases h
    exact ⟨R_W, T_W, 2, t_W, rfl, by decide, fun w hw => hts w (u_W_in w hw), t_W_ok, n_W, rfl, by decide +kernel, Or.inr ⟨_, "LatticeWraps", va_Nw.use rfl (hN _ (List.mem_of_getElem? (i := 14) (by decide +kernel))), fun _ h => h⟩⟩
  · cases h
    exact ⟨R_K, T_K, 8, t_K, rfl, by decide, fun w hw => hts w (u_K_in w hw), t_K_ok, n_K, rfl, by decide +kernel, Or.inr ⟨_, "LatticeWraps", va_Nw.use rfl (hN _ (List.mem_of_getElem? (i := 12) (by decide +kernel))), fun _ h => h⟩⟩
  · cases h
    exact ⟨R_D, T_D, 8, t_D, rfl, by decide, fun w hw => hts w (u_D_in w hw), t_D_ok, n_D, rfl, by decide +kernel, Or.inr ⟨_, "LatticeWraps", va_Nw.use rfl (hN _ (List.mem_of_getElem? (i := 3) (by decide +kernel))), fun _ h => h⟩⟩
  · cases h
theorem X_L {p : Program} {s : State} {m : MethodId} {args : Array Value} {c : Code} {cc : ByteArray} {nL : Nat} {D : va_G} {tc : Nat → ClassId} {c0 : Cond} (CF : CallFix p m c cc nL s args (c0 :: gw_) R_L) (hK : va_K D cl_ (pm_T tc) s) (hN : ∀ w ∈ nw_, va_Nw w s) : pm_X p s m args c cc R_L D cl_ tc F_L K_L := by
  obtain ⟨h1, h2, h3, h4, h5⟩ := CF
  have hts : ∀ w ∈ gw_, w.before args s = true := fun w h => h5 w (List.mem_cons_of_mem _ h)
  refine ⟨h1, h2, h4, hK, F_L_ok hts hN, fun k v h => ?_, fun k v h => ?_⟩
  · unfold K_L at h
    cases h
  · unfold K_L at h
    cases h
def F_R : pm_FT := fun k => match k with
  | 7 => some (6, 1, .array .int, true)
  | 13 => some (6, 2, .array .boolean, true)
  | 17 => some (6, 3, .array .long, true)
  | 21 => some (6, 4, .array .long, true)
  | 24 => some (6, 5, .array .long, true)
  | 27 => some (6, 7, .array .int, true)
  | 30 => some (6, 8, .array .int, true)
  | 33 => some (6, 9, .array .boolean, true)
  | 36 => some (6, 10, .array .long, true)
  | 39 => some (6, 11, .array .long, true)
  | 42 => some (6, 12, .array .long, true)
  | 45 => some (6, 13, .array .int, true)
  | 48 => some (6, 14, .array .int, true)
  | 51 => some (6, 15, .array .int, true)
  | 54 => some (6, 16, .array .int, true)
  | 57 => some (6, 17, .array .boolean, true)
  | 60 => some (6, 18, .array .int, true)
  | 63 => some (6, 19, .array .int, true)
  | 66 => some (6, 20, .array .int, true)
  | 69 => some (6, 21, .array .int, true)
  | 72 => some (6, 0, .int, false)
  | 82 => some (6, 6, .int, false)
  | _ => none
def K_R : Nat → Option Value := fun k => match k with
  | 80 => some (.long (-1))
  | 85 => some (.long (255))
  | 91 => some (.long (31))
  | 104 => some (.int (32768))
  | 120 => some (.long (95))
  | 131 => some (.long (150))
  | _ => none
set_option maxHeartbeats 2000000 in
theorem F_R_ok {args : Array Value} {s : State} (hts : ∀ w ∈ gw_, w.before args s = true) (hN : ∀ w ∈ nw_, va_Nw w s) : ∀ k ci j ty fin, F_R k = some (ci, j, ty, fin) → pm_fok R_R cl_ args s k ci j ty fin := by
  intro k ci j ty fin h
  unfold F_R at h
  split at h
  · cases h
    exact ⟨R_R, T_R, 22, t_R, rfl, by decide, fun w hw => hts w (u_R_in w hw), t_R_ok, n_R, rfl, by decide +kernel, Or.inl ⟨_, hts _ (gm_ 580 (by decide +kernel) (by decide +kernel)), fun _ h => h⟩⟩
  · cases h
    exact ⟨R_R, T_R, 22, t_R, rfl, by decide, fun w hw => hts w (u_R_in w hw), t_R_ok, n_R, rfl, by decide +kernel, Or.inl ⟨_, hts _ (gm_ 581 (by decide +kernel) (by decide +kernel)), fun _ h => h⟩⟩
  · cases h
    exact ⟨R_R, T_R, 22, t_R, rfl, by decide, fun w hw => hts w (u_R_in w hw), t_R_ok, n_R, rfl, by decide +kernel, Or.inl ⟨_, hts _ (gm_ 582 (by decide +kernel) (by decide +kernel)), fun _ h => h⟩⟩
  · cases h
    exact ⟨R_R, T_R, 22, t_R, rfl, by decide, fun w hw => hts w (u_R_in w hw), t_R_ok, n_R, rfl, by decide +kernel, Or.inl ⟨_, hts _ (gm_ 583 (by decide +kernel) (by decide +kernel)), fun _ h => h⟩⟩
  · cases h
    exact ⟨R_R, T_R, 22, t_R, rfl, by decide, fun w hw => hts w (u_R_in w hw), t_R_ok, n_R, rfl, by decide +kernel, Or.inl ⟨_, hts _ (gm_ 584 (by decide +kernel) (by decide +kernel)), fun _ h => h⟩⟩
  · cases h
    exact ⟨R_R, T_R, 22, t_R, rfl, by decide, fun w hw => hts w (u_R_in w hw), t_R_ok, n_R, rfl, by decide +kernel, Or.inl ⟨_, hts _ (gm_ 586 (by decide +kernel) (by decide +kernel)), fun _ h => h⟩⟩
  · cases h
    exact ⟨R_R, T_R, 22, t_R, rfl, by decide, fun w hw => hts w (u_R_in w hw), t_R_ok, n_R, rfl, by decide +kernel, Or.inl ⟨_, hts _ (gm_ 587 (by decide +kernel) (by decide +kernel)), fun _ h => h⟩⟩
  · cases h
    exact ⟨R_R, T_R, 22, t_R, rfl, by decide, fun w hw => hts w (u_R_in w hw), t_R_ok, n_R, rfl, by decide +kernel, Or.inl ⟨_, hts _ (gm_ 588 (by decide +kernel) (by decide +kernel)), fun _ h => h⟩⟩
  · cases h
    exact ⟨R_R, T_R, 22, t_R, rfl, by decide, fun w hw => hts w (u_R_in w hw), t_R_ok, n_R, rfl, by decide +kernel, Or.inl ⟨_, hts _ (gm_ 589 (by decide +kernel) (by decide +kernel)), fun _ h => h⟩⟩
  · cases h
    exact ⟨R_R, T_R, 22, t_R, rfl, by decide, fun w hw => hts w (u_R_in w hw), t_R_ok, n_R, rfl, by decide +kernel, Or.inl ⟨_, hts _ (gm_ 590 (by decide +kernel) (by decide +kernel)), fun _ h => h⟩⟩
  · cases h
    exact ⟨R_R, T_R, 22, t_R, rfl, by decide, fun w hw => hts w (u_R_in w hw), t_R_ok, n_R, rfl, by decide +kernel, Or.inl ⟨_, hts _ (gm_ 591 (by decide +kernel) (by decide +kernel)), fun _ h => h⟩⟩
  · cases h
    exact ⟨R_R, T_R, 22, t_R, rfl, by decide, fun w hw => hts w (u_R_in w hw), t_R_ok, n_R, rfl, by decide +kernel, Or.inl ⟨_, hts _ (gm_ 592 (by decide +kernel) (by decide +kernel)), fun _ h => h⟩⟩
  · cases h
    exact ⟨R_R, T_R, 22, t_R, rfl, by decide, fun w hw => hts w (u_R_in w hw), t_R_ok, n_R, rfl, by decide +kernel, Or.inl ⟨_, hts _ (gm_ 593 (by decide +kernel) (by decide +kernel)), fun _ h => h⟩⟩
  · cases h
    exact ⟨R_R, T_R, 22, t_R, rfl, by decide, fun w hw => hts w (u_R_in w hw), t_R_ok, n_R, rfl, by decide +kernel, Or.inl ⟨_, hts _ (gm_ 594 (by decide +kernel) (by decide +kernel)), fun _ h => h⟩⟩
  · cases h
    exact ⟨R_R, T_R, 22, t_R, rfl, by decide, fun w hw => hts w (u_R_in w hw), t_R_ok, n_R, rfl, by decide +kernel, Or.inl ⟨_, hts _ (gm_ 595 (by decide +kernel) (by decide +kernel)), fun _ h => h⟩⟩
  · cases h
    exact ⟨R_R, T_R, 22, t_R, rfl, by decide, fun w hw => hts w (u_R_in w hw), t_R_ok, n_R, rfl, by decide +kernel, Or.inl ⟨_, hts _ (gm_ 596 (by decide +kernel) (by decide +kernel)), fun _ h => h⟩⟩
  · cases h
    exact ⟨R_R, T_R, 22, t_R, rfl, by decide, fun w hw => hts w (u_R_in w hw), t_R_ok, n_R, rfl, by decide +kernel, Or.inl ⟨_, hts _ (gm_ 597 (by decide +kernel) (by decide +kernel)), fun _ h => h⟩⟩
  · cases h
    exact ⟨R_R, T_R, 22, t_R, rfl, by decide, fun w hw => hts w (u_R_in w hw), t_R_ok, n_R, rfl, by decide +kernel, Or.inl ⟨_, hts _ (gm_ 598 (by decide +kernel) (by decide +kernel)), fun _ h => h⟩⟩
  · cases h
    exact ⟨R_R, T_R, 22, t_R, rfl, by decide, fun w hw => hts w (u_R_in w hw), t_R_ok, n_R, rfl, by decide +kernel, Or.inl ⟨_, hts _ (gm_ 599 (by decide +kernel) (by decide +kernel)), fun _ h => h⟩⟩
  · cases h
    exact ⟨R_R, T_R, 22, t_R, rfl, by decide, fun w hw => hts w (u_R_in w hw), t_R_ok, n_R, rfl, by decide +kernel, Or.inl ⟨_, hts _ (gm_ 600 (by decide +kernel) (by decide +kernel)), fun _ h => h⟩⟩
  · cases h
    exact ⟨R_R, T_R, 22, t_R, rfl, by decide, fun w hw => hts w (u_R_in w hw), t_R_ok, n_R, rfl, by decide +kernel, Or.inl ⟨_, hts _ (gm_ 579 (by decide +kernel) (by decide +kernel)), fun _ h => h⟩⟩
  · cases h
    exact ⟨R_R, T_R, 22, t_R, rfl, by decide, fun w hw => hts w (u_R_in w hw), t_R_ok, n_R, rfl, by decide +kernel, Or.inl ⟨_, hts _ (gm_ 585 (by decide +kernel) (by decide +kernel)), fun _ h => h⟩⟩
  · cases h
theorem X_R {p : Program} {s : State} {m : MethodId} {args : Array Value} {c : Code} {cc : ByteArray} {nL : Nat} {D : va_G} {tc : Nat → ClassId} {c0 : Cond} (CF : CallFix p m c cc nL s args (c0 :: gw_) R_R) (hK : va_K D cl_ (pm_T tc) s) (hN : ∀ w ∈ nw_, va_Nw w s) : pm_X p s m args c cc R_R D cl_ tc F_R K_R := by
  obtain ⟨h1, h2, h3, h4, h5⟩ := CF
  have hts : ∀ w ∈ gw_, w.before args s = true := fun w h => h5 w (List.mem_cons_of_mem _ h)
  refine ⟨h1, h2, h4, hK, F_R_ok hts hN, fun k v h => ?_, fun k v h => ?_⟩
  · unfold K_R at h
    split at h
    · cases h
    · cases h
    · cases h
    · cases h
      exact hts _ (gm_ 692 (by decide +kernel) (by decide +kernel))
    · cases h
    · cases h
    · cases h
  · unfold K_R at h
    split at h
    · cases h
      exact hts _ (gm_ 675 (by decide +kernel) (by decide +kernel))
    · cases h
      exact hts _ (gm_ 662 (by decide +kernel) (by decide +kernel))
    · cases h
      exact hts _ (gm_ 667 (by decide +kernel) (by decide +kernel))
    · cases h
    · cases h
      exact hts _ (gm_ 680 (by decide +kernel) (by decide +kernel))
    · cases h
      exact hts _ (gm_ 712 (by decide +kernel) (by decide +kernel))
    · cases h
def F_Q : pm_FT := fun k => match k with
  | _ => none
def K_Q : Nat → Option Value := fun k => match k with
  | 64 => some (.long (4294967295))
  | _ => none
set_option maxHeartbeats 2000000 in
theorem F_Q_ok {args : Array Value} {s : State} (hts : ∀ w ∈ gw_, w.before args s = true) (hN : ∀ w ∈ nw_, va_Nw w s) : ∀ k ci j ty fin, F_Q k = some (ci, j, ty, fin) → pm_fok R_Q cl_ args s k ci j ty fin := by
  intro k ci j ty fin h
  unfold F_Q at h
  cases h
theorem X_Q {p : Program} {s : State} {m : MethodId} {args : Array Value} {c : Code} {cc : ByteArray} {nL : Nat} {D : va_G} {tc : Nat → ClassId} {c0 : Cond} (CF : CallFix p m c cc nL s args (c0 :: gw_) R_Q) (hK : va_K D cl_ (pm_T tc) s) (hN : ∀ w ∈ nw_, va_Nw w s) : pm_X p s m args c cc R_Q D cl_ tc F_Q K_Q := by
  obtain ⟨h1, h2, h3, h4, h5⟩ := CF
  have hts : ∀ w ∈ gw_, w.before args s = true := fun w h => h5 w (List.mem_cons_of_mem _ h)
  refine ⟨h1, h2, h4, hK, F_Q_ok hts hN, fun k v h => ?_, fun k v h => ?_⟩
  · unfold K_Q at h
    split at h
    · cases h
    · cases h
  · unfold K_Q at h
    split at h
    · cases h
      exact hts _ (gm_ 777 (by decide +kernel) (by decide +kernel))
    · cases h
def F_A : pm_FT := fun k => match k with
  | _ => none
def K_A : Nat → Option Value := fun k => match k with
  | _ => none
set_option maxHeartbeats 2000000 in
theorem F_A_ok {args : Array Value} {s : State} (hts : ∀ w ∈ gw_, w.before args s = true) (hN : ∀ w ∈ nw_, va_Nw w s) : ∀ k ci j ty fin, F_A k = some (ci, j, ty, fin) → pm_fok "java/util/Arrays" cl_ args s k ci j ty fin := by
  intro k ci j ty fin h
  unfold F_A at h
  cases h
theorem X_A {p : Program} {s : State} {m : MethodId} {args : Array Value} {c : Code} {cc : ByteArray} {nL : Nat} {D : va_G} {tc : Nat → ClassId} {c0 : Cond} (CF : CallFix p m c cc nL s args (c0 :: gw_) "java/util/Arrays") (hK : va_K D cl_ (pm_T tc) s) (hN : ∀ w ∈ nw_, va_Nw w s) : pm_X p s m args c cc "java/util/Arrays" D cl_ tc F_A K_A := by
  obtain ⟨h1, h2, h3, h4, h5⟩ := CF
  have hts : ∀ w ∈ gw_, w.before args s = true := fun w h => h5 w (List.mem_cons_of_mem _ h)
  refine ⟨h1, h2, h4, hK, F_A_ok hts hN, fun k v h => ?_, fun k v h => ?_⟩
  · unfold K_A at h
    cases h
  · unfold K_A at h
    cases h
end NF
