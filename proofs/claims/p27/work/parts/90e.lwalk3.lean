theorem cl_dropL {D : va_G} {A : Nat → Prop} {s : State} {w1 w2 : va_W} {H : Heap} {locs : List Loc} (hW : cr_wd D A s (w1 ++ w2) H locs) : cr_wd D A s w2 H locs := by
  obtain ⟨hP, hD, hS, hA⟩ := hW
  have e : ∀ (k : Nat) (q : Nat × va_E), w2[k]? = some q → (w1 ++ w2)[w1.length + k]? = some q := fun k q hq => by
    rw [List.getElem?_append_right (by omega)]; simpa using hq
  refine ⟨fun k q hq => hP _ q (e k q hq), ⟨fun i j p q hi hj hpq => ?_, fun k q hq => hD.2 _ q (e k q hq)⟩, hS, hA⟩
  have := hD.1 _ _ p q (e i p hi) (e j q hj) hpq
  omega
theorem cl_metS {l : Launch} {y : MethodName} {ws ws' : List Cond} {rm : Room} {cc : ByteArray} {maxL mc ms : Nat} {ret : Option FieldType} {own : String} {D : va_G} {ct : Nat → ClassId} {wc : va_W} {sz : Nat} {av : List Value} {Qc : (Nat → Prop) → Array Value → State → Outcome → State → Prop}
    (hy : plainName y.cls = true) (hw : ws = Cond.code y cc maxL ret :: ws') (ho : y.cls = own) (hn : (lg_sl av).length ≤ maxL)
    (body : ∀ (p : Program) (e : Env) (s : State) (m : MethodId) (args : Array Value) (below : List Frame) (meth : Method) (c : Code) (ls : Array Slot) (A : Nat → Prop), cr_NF s → cr_ST A s s.heap → cr_Cx p s m meth c args own ws cc maxL ret D ct → cr_wd D A s wc s.heap [] → lv_has ls maxL (lv_args 0 av) →
      W p l e rm s m args below meth c s.heap [] 0 0 (MQ below (Qc A) args s mc ms A) (F0 m 0 ls [])) : Met l y ws rm (cr_pS D ct wc sz av) (Qc (va_A wc sz)) mc ms (va_A wc sz) := by
  refine Met.ofW (cc := cc) (maxL := maxL) (ret := ret) hy hw ?_
  intro p e s m args below meth c s₁ B hml hv
  obtain ⟨rfl, hsz, hP, hK, hD0, hN, hNF, hST⟩ := hv
  subst ho; subst hsz
  have hl := lv_entry av (n := maxL) hn
  rw [lg_entry_eq]
  exact body p e s m _ below meth c _ _ hNF hST ⟨B.exec, B.bytes, hml, findClass_of_methodNamed B.named, atoms_spec (ws := ws) B.pre, B.returns, B.notSynchronized, hK, hN⟩ ⟨hP, hD0.self, va_S.rf, fun q h => Or.inr h⟩ hl
set_option maxHeartbeats 4000000 in
set_option maxRecDepth 100000 in
theorem m_L_actsM (L : Launch) (D : va_G) (ct : Nat → ClassId) (bv : Nat → Nat) (bg : Nat → Nat) (bl : Nat → Nat) (bc : Nat → Nat) (a : Nat → Nat → Nat) (r : Nat → Nat → Nat → Nat) (wv : cr_V) (wg : cr_V) (wl : cr_V) (wc : cr_V) (vX : cr_XT) (x7 : Int32) (out : Int32 × cr_V × cr_V × cr_V × cr_XT) (hE : f_L_actsM wv wg wl wc vX x7 = some out) {p : Program} {e : Env} {s : State} {m : MethodId} {args : Array Value} {below : List Frame} {meth : Method} {c : Code} {A : Nat → Prop} (C : cr_Cx p s m meth c args RL wsL_acts cL_acts 12 (some .boolean) D ct) (H : Heap) (locs : List Loc) (ls : Array Slot) (hW : cr_wd D A s (cr_wN ct 25 bv wv ++ (cr_wN ct 17 bg wg ++ (cr_wN ct 52 bl wl ++ (cr_wN ct 12 bc wc ++ cr_wXt ct a r vX)))) H locs) (hl : lv_has ls 12 [(0, .ref (a 0 0)), (1, .ref (bg 0)), (2, .ref (bl 0)), (3, .ref (bc 0)), (7, .int x7)]) : W p L e ({ frames := 6, cells := 1, slots := 25, locals := 142 } : Room) s m args below meth c H locs 1 25 (MQ below (va_Qi (fun r (u : (Nat → Nat → Nat → Nat) × cr_V × cr_V × cr_V × cr_XT) => (r, u.2) = out) (fun u t => cr_at D A ((fun u : (Nat → Nat → Nat → Nat) × cr_V × cr_V × cr_V × cr_XT => cr_wN ct 17 bg u.2.1 ++ (cr_wN ct 52 bl u.2.2.1 ++ (cr_wN ct 12 bc u.2.2.2.1 ++ cr_wXt ct a u.1 u.2.2.2.2))) u) t) A) args s 1 25 A) (F0 m 444 ls [.ref (bv 0)]) := by
  have k0 : (Cond.constant RL 51 (-2000000002)) ∈ wsL_acts := List.mem_of_getElem? (i := 3) rfl
  obtain ⟨hx, hb, hml, hown, hts, hr, hlocks, hK, hN⟩ := id C
  have n529 :  ∀ (n : Nat), ∀ (wv : cr_V) (wg : cr_V) (wl : cr_V) (wc : cr_V) (vX : cr_XT) (x7 : Int32) (x9 : Int32) (x10 : Int32) (x11 : Int32) (hE : f_L_actsM_529  n wv wg wl wc vX x7 x9 x10 x11 = some out) (r : Nat → Nat → Nat → Nat) (H : Heap) (locs : List Loc) (ls : Array Slot) (hW : cr_wd D A s (cr_wN ct 25 bv wv ++ (cr_wN ct 17 bg wg ++ (cr_wN ct 52 bl wl ++ (cr_wN ct 12 bc wc ++ cr_wXt ct a r vX)))) H locs) (hl : lv_has ls 12 [(0, .ref (a 0 0)), (1, .ref (bg 0)), (2, .ref (bl 0)), (3, .ref (bc 0)), (7, .int x7), (8, .ref (bv 0)), (9, .int x9), (10, .int x10), (11, .int x11)]), W p L e ({ frames := 6, cells := 1, slots := 25, locals := 142 } : Room) s m args below meth c H locs 1 25 (MQ below (va_Qi (fun r (u : (Nat → Nat → Nat → Nat) × cr_V × cr_V × cr_V × cr_XT) => (r, u.2) = out) (fun u t => cr_at D A ((fun u : (Nat → Nat → Nat → Nat) × cr_V × cr_V × cr_V × cr_XT => cr_wN ct 17 bg u.2.1 ++ (cr_wN ct 52 bl u.2.2.1 ++ (cr_wN ct 12 bc u.2.2.2.1 ++ cr_wXt ct a u.1 u.2.2.2.2))) u) t) A) args s 1 25 A) (F0 m 529 ls []) := by
    intro  n
    induction n with
    | zero =>
      intro wv wg wl wc vX x7 x9 x10 x11 hE
      cases hE
    | succ n ih =>
      intro wv wg wl wc vX x7 x9 x10 x11 hE r H locs ls hW hl
      replace hE : (if x9 ≤ x11 then ((f_L_close (cr_a (cr_a (cr_a wg 0 1 ((wg 0 1) + x10)) 0 2 (((cr_a wg 0 1 ((wg 0 1) + x10)) 0 2) + 1)) 0 4 (((cr_a (cr_a wg 0 1 ((wg 0 1) + x10)) 0 2 (((cr_a wg 0 1 ((wg 0 1) + x10)) 0 2) + 1)) 0 4) + ((cr_a (cr_a wg 0 1 ((wg 0 1) + x10)) 0 2 (((cr_a wg 0 1 ((wg 0 1) + x10)) 0 2) + 1)) 0 8))) wc x7).bind fun q2 => (f_X6_meet vX.1 vX.2.1 vX.2.2.1 vX.2.2.2.1 vX.2.2.2.2.1 vX.2.2.2.2.2.1 vX.2.2.2.2.2.2.1 vX.2.2.2.2.2.2.2.1 vX.2.2.2.2.2.2.2.2.1 vX.2.2.2.2.2.2.2.2.2 x7).bind fun q3 => if q3.1 = x10 then (some (1, q2.1, wl, q2.2, (cl_uM q3.2 vX))) else (some (0, q2.1, wl, q2.2, (cl_uM q3.2 vX)))) else (if cr_in (2 * x11) 25 = true then if cr_in ((2 * x11) + 1) 25 = true then (f_L_takes wg wl (wv 0 (cr_x (2 * x11))) (wv 0 (cr_x ((2 * x11) + 1)))).bind fun q7 => f_L_actsM_529 n wv q7.1 q7.2 wc vX x7 x9 x10 (x11 + 1) else none else none)) = some out := hE
      refine lv_iload hx hb dL_acts_529 (lv_at hl 8 rfl) ?_
      refine lv_iload hx hb dL_acts_531 (lv_at hl 6 rfl) ?_
      refine lv_icmp_ge (tgt := 563) hx hb dL_acts_533 (by decide) (fun c1 => ?_) (fun c1 => ?_)
      · rw [if_pos c1] at hE
        refine lv_aload_n hx hb dL_acts_563 rfl (lv_at hl 1 rfl) ?_
        refine lv_iconst (v := 1) hx hb dL_acts_564 (by decide) ?_
        refine lv_dup2_11 hx hb dL_acts_565 rfl rfl ?_
        refine cr_ald C hW.1 1 (f := wg 0) (k := 1) rfl (by decide) (by decide) dL_acts_566 ?_
        refine lv_iload hx hb dL_acts_567 (lv_at hl 7 rfl) ?_
        refine lv_iadd hx hb dL_acts_569 ?_
        refine cr_ast C hW 1 rfl (k := 1) (by decide) (by decide) (w' := cr_wN ct 25 bv wv ++ (cr_wN ct 17 bg (cr_a wg 0 1 ((wg 0 1) + x10)) ++ (cr_wN ct 52 bl wl ++ (cr_wN ct 12 bc wc ++ cr_wXt ct a r vX)))) rfl dL_acts_570 (fun H locs hW => ?_)
        refine lv_aload_n hx hb dL_acts_571 rfl (lv_at hl 1 rfl) ?_
        refine lv_iconst (v := 2) hx hb dL_acts_572 (by decide) ?_
        refine lv_dup2_11 hx hb dL_acts_573 rfl rfl ?_
        refine cr_ald C hW.1 1 (f := (cr_a wg 0 1 ((wg 0 1) + x10)) 0) (k := 2) rfl (by decide) (by decide) dL_acts_574 ?_
        refine lv_iconst (v := 1) hx hb dL_acts_575 (by decide) ?_
        refine lv_iadd hx hb dL_acts_576 ?_
        refine cr_ast C hW 1 rfl (k := 2) (by decide) (by decide) (w' := cr_wN ct 25 bv wv ++ (cr_wN ct 17 bg (cr_a (cr_a wg 0 1 ((wg 0 1) + x10)) 0 2 (((cr_a wg 0 1 ((wg 0 1) + x10)) 0 2) + 1)) ++ (cr_wN ct 52 bl wl ++ (cr_wN ct 12 bc wc ++ cr_wXt ct a r vX)))) rfl dL_acts_577 (fun H locs hW => ?_)
        refine lv_aload_n hx hb dL_acts_578 rfl (lv_at hl 1 rfl) ?_
        refine lv_iconst (v := 4) hx hb dL_acts_579 (by decide) ?_
        refine lv_dup2_11 hx hb dL_acts_580 rfl rfl ?_
        refine cr_ald C hW.1 1 (f := (cr_a (cr_a wg 0 1 ((wg 0 1) + x10)) 0 2 (((cr_a wg 0 1 ((wg 0 1) + x10)) 0 2) + 1)) 0) (k := 4) rfl (by decide) (by decide) dL_acts_581 ?_
        refine lv_aload_n hx hb dL_acts_582 rfl (lv_at hl 1 rfl) ?_
        refine lv_bipush (v := 8) hx hb dL_acts_583 (by decide) ?_
        refine cr_ald C hW.1 1 (f := (cr_a (cr_a wg 0 1 ((wg 0 1) + x10)) 0 2 (((cr_a wg 0 1 ((wg 0 1) + x10)) 0 2) + 1)) 0) (k := 8) rfl (by decide) (by decide) dL_acts_585 ?_
        refine lv_iadd hx hb dL_acts_586 ?_
        refine cr_ast C hW 1 rfl (k := 4) (by decide) (by decide) (w' := cr_wN ct 25 bv wv ++ (cr_wN ct 17 bg (cr_a (cr_a (cr_a wg 0 1 ((wg 0 1) + x10)) 0 2 (((cr_a wg 0 1 ((wg 0 1) + x10)) 0 2) + 1)) 0 4 (((cr_a (cr_a wg 0 1 ((wg 0 1) + x10)) 0 2 (((cr_a wg 0 1 ((wg 0 1) + x10)) 0 2) + 1)) 0 4) + ((cr_a (cr_a wg 0 1 ((wg 0 1) + x10)) 0 2 (((cr_a wg 0 1 ((wg 0 1) + x10)) 0 2) + 1)) 0 8))) ++ (cr_wN ct 52 bl wl ++ (cr_wN ct 12 bc wc ++ cr_wXt ct a r vX)))) rfl dL_acts_587 (fun H locs hW => ?_)
        refine lv_aload_n hx hb dL_acts_588 rfl (lv_at hl 1 rfl) ?_
        refine lv_aload_n hx hb dL_acts_589 rfl (lv_at hl 3 rfl) ?_
        refine lv_iload hx hb dL_acts_590 (lv_at hl 4 rfl) ?_
        obtain ⟨q2, hq2, hE⟩ := cr_bind hE
        refine cl_sVB (nb := 5) (n := 3) (As := [.ref (bg 0), .ref (bc 0), .int x7]) (rest := []) C hW (m_L_close L D ct bg bc (cr_a (cr_a (cr_a wg 0 1 ((wg 0 1) + x10)) 0 2 (((cr_a wg 0 1 ((wg 0 1) + x10)) 0 2) + 1)) 0 4 (((cr_a (cr_a wg 0 1 ((wg 0 1) + x10)) 0 2 (((cr_a wg 0 1 ((wg 0 1) + x10)) 0 2) + 1)) 0 4) + ((cr_a (cr_a wg 0 1 ((wg 0 1) + x10)) 0 2 (((cr_a wg 0 1 ((wg 0 1) + x10)) 0 2) + 1)) 0 8))) wc x7 _ q2 hq2) (va_cwS 3 hts gL_acts_L_close rfl rfl rfl (by decide +kernel) ⟨Nat.le_of_ble_eq_true rfl, Nat.le_of_ble_eq_true rfl⟩) [1, 3] [0, 2, 4] [cr_wN ct 25 bv wv, cr_wN ct 17 bg (cr_a (cr_a (cr_a wg 0 1 ((wg 0 1) + x10)) 0 2 (((cr_a wg 0 1 ((wg 0 1) + x10)) 0 2) + 1)) 0 4 (((cr_a (cr_a wg 0 1 ((wg 0 1) + x10)) 0 2 (((cr_a wg 0 1 ((wg 0 1) + x10)) 0 2) + 1)) 0 4) + ((cr_a (cr_a wg 0 1 ((wg 0 1) + x10)) 0 2 (((cr_a wg 0 1 ((wg 0 1) + x10)) 0 2) + 1)) 0 8))), cr_wN ct 52 bl wl, cr_wN ct 12 bc wc, cr_wXt ct a r vX] (cr_wN ct 25 bv wv ++ (cr_wN ct 17 bg q2.1 ++ (cr_wN ct 52 bl wl ++ (cr_wN ct 12 bc q2.2 ++ cr_wXt ct a r vX)))) [cr_wN ct 25 bv wv, cr_wN ct 17 bg q2.1, cr_wN ct 52 bl wl, cr_wN ct 12 bc q2.2, cr_wXt ct a r vX] ⟨rfl, rfl⟩ ⟨rfl, rfl⟩ rfl rfl rfl (by decide) rfl hl.1 rfl (Nat.le_of_ble_eq_true rfl) dL_acts_592 ⟨Nat.le_of_ble_eq_true rfl, Nat.le_of_ble_eq_true rfl⟩ (fun H locs hW => ?_)
        refine lv_aload_n hx hb dL_acts_595 rfl (lv_at hl 0 rfl) ?_
        refine lv_iload hx hb dL_acts_596 (lv_at hl 4 rfl) ?_
        obtain ⟨q3, hq3, hE⟩ := cr_bind hE
        refine cl_vWBr (nb := 5) (n := 1) (As := [.int x7]) (rest := []) C hW (m_X6_meet L D ct a r vX.1 vX.2.1 vX.2.2.1 vX.2.2.2.1 vX.2.2.2.2.1 vX.2.2.2.2.2.1 vX.2.2.2.2.2.2.1 vX.2.2.2.2.2.2.2.1 vX.2.2.2.2.2.2.2.2.1 vX.2.2.2.2.2.2.2.2.2 x7 _ q3 hq3) (cwV 1 hts gL_acts_X6_meet rfl rfl rfl (by decide +kernel) ⟨Nat.le_of_ble_eq_true rfl, Nat.le_of_ble_eq_true rfl⟩) [4] [0, 1, 2, 3] [cr_wN ct 25 bv wv, cr_wN ct 17 bg q2.1, cr_wN ct 52 bl wl, cr_wN ct 12 bc q2.2, cr_wXt ct a r vX] (fun r => cr_wN ct 25 bv wv ++ (cr_wN ct 17 bg q2.1 ++ (cr_wN ct 52 bl wl ++ (cr_wN ct 12 bc q2.2 ++ cr_wXt ct a r (cl_uM q3.2 vX))))) (fun r => [cr_wN ct 25 bv wv, cr_wN ct 17 bg q2.1, cr_wN ct 52 bl wl, cr_wN ct 12 bc q2.2, cr_wXt ct a r (cl_uM q3.2 vX)]) ⟨rfl, rfl⟩ (fun _ => ⟨rfl, rfl⟩) rfl (fun _ => rfl) (fun _ => rfl) (by decide) 4 rfl rfl rfl hl.1 rfl (Nat.le_of_ble_eq_true rfl) dL_acts_598 ⟨Nat.le_of_ble_eq_true rfl, Nat.le_of_ble_eq_true rfl⟩ (fun r H locs hW => ?_)
        refine lv_iload hx hb dL_acts_601 (lv_at hl 7 rfl) ?_
        refine lv_icmp_ne (tgt := 610) hx hb dL_acts_603 (by decide) (fun c4 => ?_) (fun c4 => ?_)
        · rw [if_neg c4] at hE
          refine lv_iconst (v := 0) hx hb dL_acts_610 (by decide) ?_
          have hW := cl_dropL hW
          exact cr_retWz C (w := (fun u : (Nat → Nat → Nat → Nat) × cr_V × cr_V × cr_V × cr_XT => cr_wN ct 17 bg u.2.1 ++ (cr_wN ct 52 bl u.2.2.1 ++ (cr_wN ct 12 bc u.2.2.2.1 ++ cr_wXt ct a u.1 u.2.2.2.2)))) (r, q2.1, wl, q2.2, (cl_uM q3.2 vX)) hW rfl (Option.some.inj hE) dL_acts_611
        · rw [if_pos c4] at hE
          refine lv_iconst (v := 1) hx hb dL_acts_606 (by decide) ?_
          refine lv_goto (tgt := 611) hx hb dL_acts_607 (by decide) ?_
          have hW := cl_dropL hW
          exact cr_retWz C (w := (fun u : (Nat → Nat → Nat → Nat) × cr_V × cr_V × cr_V × cr_XT => cr_wN ct 17 bg u.2.1 ++ (cr_wN ct 52 bl u.2.2.1 ++ (cr_wN ct 12 bc u.2.2.2.1 ++ cr_wXt ct a u.1 u.2.2.2.2)))) (r, q2.1, wl, q2.2, (cl_uM q3.2 vX)) hW rfl (Option.some.inj hE) dL_acts_611
      · rw [if_neg c1] at hE
        refine lv_aload_n hx hb dL_acts_536 rfl (lv_at hl 1 rfl) ?_
        refine lv_aload_n hx hb dL_acts_537 rfl (lv_at hl 2 rfl) ?_
        refine lv_aload hx hb dL_acts_538 (lv_at hl 5 rfl) ?_
        refine lv_iconst (v := 2) hx hb dL_acts_540 (by decide) ?_
        refine lv_iload hx hb dL_acts_541 (lv_at hl 8 rfl) ?_
        refine lv_imul hx hb dL_acts_543 ?_
        obtain ⟨i5, hE⟩ := cr_ifn hE
        refine cr_ald C hW.1 0 (f := wv 0) (k := cr_x (2 * x11)) rfl i5 (cr_xe _) dL_acts_544 ?_
        refine lv_aload hx hb dL_acts_545 (lv_at hl 5 rfl) ?_
        refine lv_iconst (v := 2) hx hb dL_acts_547 (by decide) ?_
        refine lv_iload hx hb dL_acts_548 (lv_at hl 8 rfl) ?_
        refine lv_imul hx hb dL_acts_550 ?_
        refine lv_iconst (v := 1) hx hb dL_acts_551 (by decide) ?_
        refine lv_iadd hx hb dL_acts_552 ?_
        obtain ⟨i6, hE⟩ := cr_ifn hE
        refine cr_ald C hW.1 0 (f := wv 0) (k := cr_x ((2 * x11) + 1)) rfl i6 (cr_xe _) dL_acts_553 ?_
        obtain ⟨q7, hq7, hE⟩ := cr_bind hE
        refine cl_sVB (nb := 5) (n := 4) (As := [.ref (bg 0), .ref (bl 0), .int (wv 0 (cr_x (2 * x11))), .int (wv 0 (cr_x ((2 * x11) + 1)))]) (rest := []) C hW (m_L_takes L D ct bg bl wg wl (wv 0 (cr_x (2 * x11))) (wv 0 (cr_x ((2 * x11) + 1))) _ q7 hq7) (va_cwS 4 hts gL_acts_L_takes rfl rfl rfl (by decide +kernel) ⟨Nat.le_of_ble_eq_true rfl, Nat.le_of_ble_eq_true rfl⟩) [1, 2] [0, 3, 4] [cr_wN ct 25 bv wv, cr_wN ct 17 bg wg, cr_wN ct 52 bl wl, cr_wN ct 12 bc wc, cr_wXt ct a r vX] (cr_wN ct 25 bv wv ++ (cr_wN ct 17 bg q7.1 ++ (cr_wN ct 52 bl q7.2 ++ (cr_wN ct 12 bc wc ++ cr_wXt ct a r vX)))) [cr_wN ct 25 bv wv, cr_wN ct 17 bg q7.1, cr_wN ct 52 bl q7.2, cr_wN ct 12 bc wc, cr_wXt ct a r vX] ⟨rfl, rfl⟩ ⟨rfl, rfl⟩ rfl rfl rfl (by decide) rfl hl.1 rfl (Nat.le_of_ble_eq_true rfl) dL_acts_554 ⟨Nat.le_of_ble_eq_true rfl, Nat.le_of_ble_eq_true rfl⟩ (fun H locs hW => ?_)
        refine lv_iinc (v := x11 + 1) (lv' := [(11, .int (x11 + 1)), (0, .ref (a 0 0)), (1, .ref (bg 0)), (2, .ref (bl 0)), (3, .ref (bc 0)), (7, .int x7), (8, .ref (bv 0)), (9, .int x9), (10, .int x10)]) hx hb dL_acts_557 hl (k := 8) rfl (by first | rfl | decide) (by decide) rfl (fun ls hl => ?_)
        refine lv_goto (tgt := 529) hx hb dL_acts_560 (by decide) ?_
        exact ih wv q7.1 q7.2 wc vX x7 x9 x10 (x11 + 1) hE _ _ _ _ hW (lv_sub hl [1, 2, 3, 4, 5, 6, 7, 8, 0] rfl)
  have n486 :  ∀ (wv : cr_V) (wg : cr_V) (wl : cr_V) (wc : cr_V) (vX : cr_XT) (x7 : Int32) (hE : f_L_actsM_486  wv wg wl wc vX x7 = some out) (r : Nat → Nat → Nat → Nat) (H : Heap) (locs : List Loc) (ls : Array Slot) (hW : cr_wd D A s (cr_wN ct 25 bv wv ++ (cr_wN ct 17 bg wg ++ (cr_wN ct 52 bl wl ++ (cr_wN ct 12 bc wc ++ cr_wXt ct a r vX)))) H locs) (hl : lv_has ls 12 [(0, .ref (a 0 0)), (7, .int x7)]), W p L e ({ frames := 6, cells := 1, slots := 25, locals := 142 } : Room) s m args below meth c H locs 1 25 (MQ below (va_Qi (fun r (u : (Nat → Nat → Nat → Nat) × cr_V × cr_V × cr_V × cr_XT) => (r, u.2) = out) (fun u t => cr_at D A ((fun u : (Nat → Nat → Nat → Nat) × cr_V × cr_V × cr_V × cr_XT => cr_wN ct 17 bg u.2.1 ++ (cr_wN ct 52 bl u.2.2.1 ++ (cr_wN ct 12 bc u.2.2.2.1 ++ cr_wXt ct a u.1 u.2.2.2.2))) u) t) A) args s 1 25 A) (F0 m 486 ls []) := by
    intro  wv wg wl wc vX x7 hE r H locs ls hW hl
    replace hE : ((f_X6_meet vX.1 vX.2.1 vX.2.2.1 vX.2.2.2.1 vX.2.2.2.2.1 vX.2.2.2.2.2.1 vX.2.2.2.2.2.2.1 vX.2.2.2.2.2.2.2.1 vX.2.2.2.2.2.2.2.2.1 vX.2.2.2.2.2.2.2.2.2 x7).bind fun q8 => if q8.1 = (-2000000002) then (some (1, wg, wl, wc, (cl_uM q8.2 vX))) else (some (0, wg, wl, wc, (cl_uM q8.2 vX)))) = some out := hE
    refine lv_aload_n hx hb dL_acts_486 rfl (lv_at hl 0 rfl) ?_
    refine lv_iload hx hb dL_acts_487 (lv_at hl 1 rfl) ?_
    obtain ⟨q8, hq8, hE⟩ := cr_bind hE
    refine cl_vWBr (nb := 5) (n := 1) (As := [.int x7]) (rest := []) C hW (m_X6_meet L D ct a r vX.1 vX.2.1 vX.2.2.1 vX.2.2.2.1 vX.2.2.2.2.1 vX.2.2.2.2.2.1 vX.2.2.2.2.2.2.1 vX.2.2.2.2.2.2.2.1 vX.2.2.2.2.2.2.2.2.1 vX.2.2.2.2.2.2.2.2.2 x7 _ q8 hq8) (cwV 1 hts gL_acts_X6_meet rfl rfl rfl (by decide +kernel) ⟨Nat.le_of_ble_eq_true rfl, Nat.le_of_ble_eq_true rfl⟩) [4] [0, 1, 2, 3] [cr_wN ct 25 bv wv, cr_wN ct 17 bg wg, cr_wN ct 52 bl wl, cr_wN ct 12 bc wc, cr_wXt ct a r vX] (fun r => cr_wN ct 25 bv wv ++ (cr_wN ct 17 bg wg ++ (cr_wN ct 52 bl wl ++ (cr_wN ct 12 bc wc ++ cr_wXt ct a r (cl_uM q8.2 vX))))) (fun r => [cr_wN ct 25 bv wv, cr_wN ct 17 bg wg, cr_wN ct 52 bl wl, cr_wN ct 12 bc wc, cr_wXt ct a r (cl_uM q8.2 vX)]) ⟨rfl, rfl⟩ (fun _ => ⟨rfl, rfl⟩) rfl (fun _ => rfl) (fun _ => rfl) (by decide) 4 rfl rfl rfl hl.1 rfl (Nat.le_of_ble_eq_true rfl) dL_acts_489 ⟨Nat.le_of_ble_eq_true rfl, Nat.le_of_ble_eq_true rfl⟩ (fun r H locs hW => ?_)
    refine cr_ldc C k0 dL_acts_492 ?_
    refine lv_icmp_ne (tgt := 501) hx hb dL_acts_494 (by decide) (fun c9 => ?_) (fun c9 => ?_)
    · rw [if_neg c9] at hE
      refine lv_iconst (v := 0) hx hb dL_acts_501 (by decide) ?_
      have hW := cl_dropL hW
      exact cr_retWz C (w := (fun u : (Nat → Nat → Nat → Nat) × cr_V × cr_V × cr_V × cr_XT => cr_wN ct 17 bg u.2.1 ++ (cr_wN ct 52 bl u.2.2.1 ++ (cr_wN ct 12 bc u.2.2.2.1 ++ cr_wXt ct a u.1 u.2.2.2.2)))) (r, wg, wl, wc, (cl_uM q8.2 vX)) hW rfl (Option.some.inj hE) dL_acts_502
    · rw [if_pos c9] at hE
      refine lv_iconst (v := 1) hx hb dL_acts_497 (by decide) ?_
      refine lv_goto (tgt := 502) hx hb dL_acts_498 (by decide) ?_
      have hW := cl_dropL hW
      exact cr_retWz C (w := (fun u : (Nat → Nat → Nat → Nat) × cr_V × cr_V × cr_V × cr_XT => cr_wN ct 17 bg u.2.1 ++ (cr_wN ct 52 bl u.2.2.1 ++ (cr_wN ct 12 bc u.2.2.2.1 ++ cr_wXt ct a u.1 u.2.2.2.2)))) (r, wg, wl, wc, (cl_uM q8.2 vX)) hW rfl (Option.some.inj hE) dL_acts_502
  replace hE : (if cr_in ((2 * x7) + 1) 12 = true then (f_L_gives wg wl wv (wc 0 (cr_x ((2 * x7) + 1))) (wg 0 0)).bind fun q11 => if cr_in (2 * x7) 12 = true then if (wc 0 (cr_x (2 * x7))) = (wg 0 0) then (if (q11.2 0 24) ≤ 0 then ((f_L_paidAll wg wl q11.2 (wc 0 (cr_x ((2 * x7) + 1))) (wg 0 0) q11.1 0).bind fun q15 => f_L_actsM_529 10100 q11.2 wg wl wc vX x7 q11.1 q15 0) else (f_L_actsM_486 q11.2 wg wl wc vX x7)) else (f_L_actsM_486 q11.2 wg wl wc vX x7) else none else none) = some out := hE
  refine lv_astore (lv' := [(8, .ref (bv 0)), (0, .ref (a 0 0)), (1, .ref (bg 0)), (2, .ref (bl 0)), (3, .ref (bc 0)), (7, .int x7)]) hx hb dL_acts_444 hl (by decide) rfl (fun ls hl => ?_)
  refine lv_aload_n hx hb dL_acts_446 rfl (lv_at hl 2 rfl) ?_
  refine lv_aload_n hx hb dL_acts_447 rfl (lv_at hl 3 rfl) ?_
  refine lv_aload_n hx hb dL_acts_448 rfl (lv_at hl 4 rfl) ?_
  refine lv_iconst (v := 2) hx hb dL_acts_449 (by decide) ?_
  refine lv_iload hx hb dL_acts_450 (lv_at hl 5 rfl) ?_
  refine lv_imul hx hb dL_acts_452 ?_
  refine lv_iconst (v := 1) hx hb dL_acts_453 (by decide) ?_
  refine lv_iadd hx hb dL_acts_454 ?_
  obtain ⟨i10, hE⟩ := cr_ifn hE
  refine cr_ald C hW.1 3 (f := wc 0) (k := cr_x ((2 * x7) + 1)) rfl i10 (cr_xe _) dL_acts_455 ?_
  refine lv_aload_n hx hb dL_acts_456 rfl (lv_at hl 2 rfl) ?_
  refine lv_iconst (v := 0) hx hb dL_acts_457 (by decide) ?_
  refine cr_ald C hW.1 1 (f := wg 0) (k := 0) rfl (by decide) (by decide) dL_acts_458 ?_
  refine lv_aload hx hb dL_acts_459 (lv_at hl 0 rfl) ?_
  obtain ⟨q11, hq11, hE⟩ := cr_bind hE
  refine cl_sWB (nb := 5) (n := 5) (As := [.ref (bg 0), .ref (bl 0), .int (wc 0 (cr_x ((2 * x7) + 1))), .int (wg 0 0), .ref (bv 0)]) (rest := []) C hW (m_L_gives L D ct bg bl bv wg wl wv (wc 0 (cr_x ((2 * x7) + 1))) (wg 0 0) _ q11 hq11) (va_cwS 5 hts gL_acts_L_gives rfl rfl rfl (by decide +kernel) ⟨Nat.le_of_ble_eq_true rfl, Nat.le_of_ble_eq_true rfl⟩) [1, 2, 0] [3, 4] [cr_wN ct 25 bv wv, cr_wN ct 17 bg wg, cr_wN ct 52 bl wl, cr_wN ct 12 bc wc, cr_wXt ct a r vX] (cr_wN ct 25 bv q11.2 ++ (cr_wN ct 17 bg wg ++ (cr_wN ct 52 bl wl ++ (cr_wN ct 12 bc wc ++ cr_wXt ct a r vX)))) [cr_wN ct 25 bv q11.2, cr_wN ct 17 bg wg, cr_wN ct 52 bl wl, cr_wN ct 12 bc wc, cr_wXt ct a r vX] ⟨rfl, rfl⟩ ⟨rfl, rfl⟩ rfl rfl rfl (by decide) rfl hl.1 rfl (Nat.le_of_ble_eq_true rfl) dL_acts_461 ⟨Nat.le_of_ble_eq_true rfl, Nat.le_of_ble_eq_true rfl⟩ (fun H locs hW => ?_)
  refine lv_istore (lv' := [(9, .int q11.1), (8, .ref (bv 0)), (0, .ref (a 0 0)), (1, .ref (bg 0)), (2, .ref (bl 0)), (3, .ref (bc 0)), (7, .int x7)]) hx hb dL_acts_464 hl (by decide) rfl (fun ls hl => ?_)
  refine lv_aload_n hx hb dL_acts_466 rfl (lv_at hl 5 rfl) ?_
  refine lv_iconst (v := 2) hx hb dL_acts_467 (by decide) ?_
  refine lv_iload hx hb dL_acts_468 (lv_at hl 6 rfl) ?_
  refine lv_imul hx hb dL_acts_470 ?_
  obtain ⟨i12, hE⟩ := cr_ifn hE
  refine cr_ald C hW.1 3 (f := wc 0) (k := cr_x (2 * x7)) rfl i12 (cr_xe _) dL_acts_471 ?_
  refine lv_aload_n hx hb dL_acts_472 rfl (lv_at hl 3 rfl) ?_
  refine lv_iconst (v := 0) hx hb dL_acts_473 (by decide) ?_
  refine cr_ald C hW.1 1 (f := wg 0) (k := 0) rfl (by decide) (by decide) dL_acts_474 ?_
  refine lv_icmp_ne (tgt := 486) hx hb dL_acts_475 (by decide) (fun c13 => ?_) (fun c13 => ?_)
  · rw [if_neg c13] at hE
    exact n486 q11.2 wg wl wc vX x7 hE _ _ _ _ hW (lv_sub hl [2, 6] rfl)
  · rw [if_pos c13] at hE
    refine lv_aload hx hb dL_acts_478 (lv_at hl 1 rfl) ?_
    refine lv_bipush (v := 24) hx hb dL_acts_480 (by decide) ?_
    refine cr_ald C hW.1 0 (f := q11.2 0) (k := 24) rfl (by decide) (by decide) dL_acts_482 ?_
    refine lv_if_le (tgt := 503) hx hb dL_acts_483 (by decide) (fun c14 => ?_) (fun c14 => ?_)
    · rw [if_pos c14] at hE
      refine lv_aload_n hx hb dL_acts_503 rfl (lv_at hl 3 rfl) ?_
      refine lv_aload_n hx hb dL_acts_504 rfl (lv_at hl 4 rfl) ?_
      refine lv_aload_n hx hb dL_acts_505 rfl (lv_at hl 5 rfl) ?_
      refine lv_iconst (v := 2) hx hb dL_acts_506 (by decide) ?_
      refine lv_iload hx hb dL_acts_507 (lv_at hl 6 rfl) ?_
      refine lv_imul hx hb dL_acts_509 ?_
      refine lv_iconst (v := 1) hx hb dL_acts_510 (by decide) ?_
      refine lv_iadd hx hb dL_acts_511 ?_
      refine cr_ald C hW.1 3 (f := wc 0) (k := cr_x ((2 * x7) + 1)) rfl i10 (cr_xe _) dL_acts_512 ?_
      refine lv_aload_n hx hb dL_acts_513 rfl (lv_at hl 3 rfl) ?_
      refine lv_iconst (v := 0) hx hb dL_acts_514 (by decide) ?_
      refine cr_ald C hW.1 1 (f := wg 0) (k := 0) rfl (by decide) (by decide) dL_acts_515 ?_
      refine lv_aload hx hb dL_acts_516 (lv_at hl 1 rfl) ?_
      refine lv_iload hx hb dL_acts_518 (lv_at hl 0 rfl) ?_
      refine lv_iconst (v := 0) hx hb dL_acts_520 (by decide) ?_
      obtain ⟨q15, hq15, hE⟩ := cr_bind hE
      refine cl_sRw (nb := 5) (n := 7) (As := [.ref (bg 0), .ref (bl 0), .int (wc 0 (cr_x ((2 * x7) + 1))), .int (wg 0 0), .ref (bv 0), .int q11.1, .int 0]) (rest := []) C hW (m_L_paidAll L D ct bg bl bv wg wl q11.2 (wc 0 (cr_x ((2 * x7) + 1))) (wg 0 0) q11.1 0 q15 hq15) (va_cwS 7 hts gL_acts_L_paidAll rfl rfl rfl (by decide +kernel) ⟨Nat.le_of_ble_eq_true rfl, Nat.le_of_ble_eq_true rfl⟩) [1, 2, 0] [cr_wN ct 25 bv q11.2, cr_wN ct 17 bg wg, cr_wN ct 52 bl wl, cr_wN ct 12 bc wc, cr_wXt ct a r vX] ⟨rfl, rfl⟩ rfl rfl hl.1 rfl (Nat.le_of_ble_eq_true rfl) dL_acts_521 ⟨Nat.le_of_ble_eq_true rfl, Nat.le_of_ble_eq_true rfl⟩ (fun H locs hW => ?_)
      refine lv_istore (lv' := [(10, .int q15), (9, .int q11.1), (8, .ref (bv 0)), (0, .ref (a 0 0)), (1, .ref (bg 0)), (2, .ref (bl 0)), (3, .ref (bc 0)), (7, .int x7)]) hx hb dL_acts_524 hl (by decide) rfl (fun ls hl => ?_)
      refine lv_iconst (v := 0) hx hb dL_acts_526 (by decide) ?_
      refine lv_istore (lv' := [(11, .int 0), (10, .int q15), (9, .int q11.1), (8, .ref (bv 0)), (0, .ref (a 0 0)), (1, .ref (bg 0)), (2, .ref (bl 0)), (3, .ref (bc 0)), (7, .int x7)]) hx hb dL_acts_527 hl (by decide) rfl (fun ls hl => ?_)
      exact n529 10100 q11.2 wg wl wc vX x7 q11.1 q15 0 hE _ _ _ _ hW (lv_sub hl [4, 5, 6, 7, 8, 3, 2, 1, 0] rfl)
    · rw [if_neg c14] at hE
      exact n486 q11.2 wg wl wc vX x7 hE _ _ _ _ hW (lv_sub hl [2, 6] rfl)

set_option maxHeartbeats 4000000 in
set_option maxRecDepth 100000 in
theorem m_L_acts (L : Launch) (D : va_G) (ct : Nat → ClassId) (bg : Nat → Nat) (bl : Nat → Nat) (bc : Nat → Nat) (a : Nat → Nat → Nat) (r : Nat → Nat → Nat → Nat) (wg : cr_V) (wl : cr_V) (wc : cr_V) (vX : cr_XT) (x4 : Int32) (sz : Nat) (out : Int32 × cr_V × cr_V × cr_V × cr_XT) (hE : f_L_acts wg wl wc vX x4 = some out) : Met L yL_acts wsL_acts ({ frames := 6, cells := 1, slots := 25, locals := 142 } : Room) (cr_pS D ct (cr_wN ct 17 bg wg ++ (cr_wN ct 52 bl wl ++ (cr_wN ct 12 bc wc ++ cr_wXt ct a r vX))) sz [.ref (a 0 0), .ref (bg 0), .ref (bl 0), .ref (bc 0), .int x4]) (cr_QW D (cr_wN ct 17 bg wg ++ (cr_wN ct 52 bl wl ++ (cr_wN ct 12 bc wc ++ cr_wXt ct a r vX))) sz (fun r (u : (Nat → Nat → Nat → Nat) × cr_V × cr_V × cr_V × cr_XT) => (r, u.2) = out) (fun u : (Nat → Nat → Nat → Nat) × cr_V × cr_V × cr_V × cr_XT => cr_wN ct 17 bg u.2.1 ++ (cr_wN ct 52 bl u.2.2.1 ++ (cr_wN ct 12 bc u.2.2.2.1 ++ cr_wXt ct a u.1 u.2.2.2.2)))) 1 25 (va_A (cr_wN ct 17 bg wg ++ (cr_wN ct 52 bl wl ++ (cr_wN ct 12 bc wc ++ cr_wXt ct a r vX))) sz) := by
  have k0 : (Cond.constant RL 51 (-2000000002)) ∈ wsL_acts := List.mem_of_getElem? (i := 3) rfl
  have k1 : (Cond.constant RL 37 (-2000000003)) ∈ wsL_acts := List.mem_of_getElem? (i := 4) rfl
  have k2 : (Cond.constant RL 44 (-2000000001)) ∈ wsL_acts := List.mem_of_getElem? (i := 2) rfl
  have k3 : (Cond.arrayClass .int) ∈ wsL_acts := List.mem_of_getElem? (i := 5) rfl
  have k4 : (Cond.constant RL 56 (10000000)) ∈ wsL_acts := List.mem_of_getElem? (i := 1) rfl
  refine cl_metS (Qc := fun A => va_Qi (fun r (u : (Nat → Nat → Nat → Nat) × cr_V × cr_V × cr_V × cr_XT) => (r, u.2) = out) (fun u t => cr_at D A ((fun u : (Nat → Nat → Nat → Nat) × cr_V × cr_V × cr_V × cr_XT => cr_wN ct 17 bg u.2.1 ++ (cr_wN ct 52 bl u.2.2.1 ++ (cr_wN ct 12 bc u.2.2.2.1 ++ cr_wXt ct a u.1 u.2.2.2.2))) u) t) A) (by decide) rfl rfl (Nat.le_of_ble_eq_true rfl) ?_
  intro p e s m args below meth c ls A hNF hST C hW hl
  obtain ⟨t1, t2, hZ1, hT1, hZ2, hT2⟩ := id hST
  obtain ⟨hx, hb, hml, hown, hts, hr, hlocks, hK, hN⟩ := id C
  have hl : lv_has ls 12 [(0, .ref (a 0 0)), (1, .ref (bg 0)), (2, .ref (bl 0)), (3, .ref (bc 0)), (4, .int x4)] := hl
  have n63 :  ∀ (wg : cr_V) (wl : cr_V) (wc : cr_V) (vX : cr_XT) (x5 : Int32) (s0 : Int32) (hE : f_L_acts_63  wg wl wc vX x5 s0 = some out) (r : Nat → Nat → Nat → Nat) (H : Heap) (locs : List Loc) (ls : Array Slot) (hW : cr_wd D A s (cr_wN ct 17 bg wg ++ (cr_wN ct 52 bl wl ++ (cr_wN ct 12 bc wc ++ cr_wXt ct a r vX))) H locs) (hl : lv_has ls 12 [(5, .int x5)]), W p L e ({ frames := 6, cells := 1, slots := 25, locals := 142 } : Room) s m args below meth c H locs 0 0 (MQ below (va_Qi (fun r (u : (Nat → Nat → Nat → Nat) × cr_V × cr_V × cr_V × cr_XT) => (r, u.2) = out) (fun u t => cr_at D A ((fun u : (Nat → Nat → Nat → Nat) × cr_V × cr_V × cr_V × cr_XT => cr_wN ct 17 bg u.2.1 ++ (cr_wN ct 52 bl u.2.2.1 ++ (cr_wN ct 12 bc u.2.2.2.1 ++ cr_wXt ct a u.1 u.2.2.2.2))) u) t) A) args s 1 25 A) (F0 m 63 ls [.int s0, .ref (bl 0), .ref (bg 0), .ref (a 0 0)]) := by
    intro  wg wl wc vX x5 s0 hE r H locs ls hW hl
    replace hE : ((f_L_lots wg wl vX s0 x5).bind fun q1 => if cr_bool q1.1 = true then some (q1.1, q1.2.1, q1.2.2.1, wc, q1.2.2.2) else none) = some out := hE
    refine lv_iload hx hb dL_acts_63 (lv_at hl 0 rfl) ?_
    obtain ⟨q1, hq1, hE⟩ := cr_bind hE
    refine cl_sWBr (nb := 4) (n := 5) (As := [.ref (a 0 0), .ref (bg 0), .ref (bl 0), .int s0, .int x5]) (rest := []) C hW (m_L_lots L D ct bg bl a r wg wl vX s0 x5 _ q1 hq1) (va_cwS 5 hts gL_acts_L_lots rfl rfl rfl (by decide +kernel) ⟨Nat.le_of_ble_eq_true rfl, Nat.le_of_ble_eq_true rfl⟩) [0, 1, 3] [2] [cr_wN ct 17 bg wg, cr_wN ct 52 bl wl, cr_wN ct 12 bc wc, cr_wXt ct a r vX] (fun r => cr_wN ct 17 bg q1.2.1 ++ (cr_wN ct 52 bl q1.2.2.1 ++ (cr_wN ct 12 bc wc ++ cr_wXt ct a r q1.2.2.2))) (fun r => [cr_wN ct 17 bg q1.2.1, cr_wN ct 52 bl q1.2.2.1, cr_wN ct 12 bc wc, cr_wXt ct a r q1.2.2.2]) ⟨rfl, rfl⟩ (fun _ => ⟨rfl, rfl⟩) rfl (fun _ => rfl) (fun _ => rfl) (by decide) rfl hl.1 rfl (Nat.le_of_ble_eq_true rfl) dL_acts_65 ⟨Nat.le_of_ble_eq_true rfl, Nat.le_of_ble_eq_true rfl⟩ (fun r H locs hW => ?_)
    obtain ⟨z2, hE⟩ := cr_ifn hE
    refine W.widen (k := 1) (n := 25) (Nat.le_of_ble_eq_true rfl) (Nat.le_of_ble_eq_true rfl) ?_
    exact cr_retWz C (w := (fun u : (Nat → Nat → Nat → Nat) × cr_V × cr_V × cr_V × cr_XT => cr_wN ct 17 bg u.2.1 ++ (cr_wN ct 52 bl u.2.2.1 ++ (cr_wN ct 12 bc u.2.2.2.1 ++ cr_wXt ct a u.1 u.2.2.2.2)))) (r, q1.2.1, q1.2.2.1, wc, q1.2.2.2) hW (cr_boolN z2) (Option.some.inj hE) dL_acts_68
  have n240 :  ∀ (wg : cr_V) (wl : cr_V) (wc : cr_V) (vX : cr_XT) (s0 : Int32) (s1 : Int32) (hE : f_L_acts_240  wg wl wc vX s0 s1 = some out) (r : Nat → Nat → Nat → Nat) (H : Heap) (locs : List Loc) (ls : Array Slot) (hW : cr_wd D A s (cr_wN ct 17 bg wg ++ (cr_wN ct 52 bl wl ++ (cr_wN ct 12 bc wc ++ cr_wXt ct a r vX))) H locs) (hl : lv_has ls 12 []), W p L e ({ frames := 6, cells := 1, slots := 25, locals := 142 } : Room) s m args below meth c H locs 0 0 (MQ below (va_Qi (fun r (u : (Nat → Nat → Nat → Nat) × cr_V × cr_V × cr_V × cr_XT) => (r, u.2) = out) (fun u t => cr_at D A ((fun u : (Nat → Nat → Nat → Nat) × cr_V × cr_V × cr_V × cr_XT => cr_wN ct 17 bg u.2.1 ++ (cr_wN ct 52 bl u.2.2.1 ++ (cr_wN ct 12 bc u.2.2.2.1 ++ cr_wXt ct a u.1 u.2.2.2.2))) u) t) A) args s 1 25 A) (F0 m 240 ls [.int s0, .int s1]) := by
    intro  wg wl wc vX s0 s1 hE r H locs ls hW hl
    replace hE : (if s1 = s0 then (some (1, wg, wl, wc, vX)) else (some (0, wg, wl, wc, vX))) = some out := hE
    refine lv_icmp_ne (tgt := 247) hx hb dL_acts_240 (by decide) (fun c3 => ?_) (fun c3 => ?_)
    · rw [if_neg c3] at hE
      refine lv_iconst (v := 0) hx hb dL_acts_247 (by decide) ?_
      refine W.widen (k := 1) (n := 25) (Nat.le_of_ble_eq_true rfl) (Nat.le_of_ble_eq_true rfl) ?_
      exact cr_retWz C (w := (fun u : (Nat → Nat → Nat → Nat) × cr_V × cr_V × cr_V × cr_XT => cr_wN ct 17 bg u.2.1 ++ (cr_wN ct 52 bl u.2.2.1 ++ (cr_wN ct 12 bc u.2.2.2.1 ++ cr_wXt ct a u.1 u.2.2.2.2)))) (r, wg, wl, wc, vX) hW rfl (Option.some.inj hE) dL_acts_248
    · rw [if_pos c3] at hE
      refine lv_iconst (v := 1) hx hb dL_acts_243 (by decide) ?_
      refine lv_goto (tgt := 248) hx hb dL_acts_244 (by decide) ?_
      refine W.widen (k := 1) (n := 25) (Nat.le_of_ble_eq_true rfl) (Nat.le_of_ble_eq_true rfl) ?_
      exact cr_retWz C (w := (fun u : (Nat → Nat → Nat → Nat) × cr_V × cr_V × cr_V × cr_XT => cr_wN ct 17 bg u.2.1 ++ (cr_wN ct 52 bl u.2.2.1 ++ (cr_wN ct 12 bc u.2.2.2.1 ++ cr_wXt ct a u.1 u.2.2.2.2)))) (r, wg, wl, wc, vX) hW rfl (Option.some.inj hE) dL_acts_248
  have n233 :  ∀ (wg : cr_V) (wl : cr_V) (wc : cr_V) (vX : cr_XT) (s0 : Int32) (hE : f_L_acts_233  wg wl wc vX s0 = some out) (r : Nat → Nat → Nat → Nat) (H : Heap) (locs : List Loc) (ls : Array Slot) (hW : cr_wd D A s (cr_wN ct 17 bg wg ++ (cr_wN ct 52 bl wl ++ (cr_wN ct 12 bc wc ++ cr_wXt ct a r vX))) H locs) (hl : lv_has ls 12 []), W p L e ({ frames := 6, cells := 1, slots := 25, locals := 142 } : Room) s m args below meth c H locs 0 0 (MQ below (va_Qi (fun r (u : (Nat → Nat → Nat → Nat) × cr_V × cr_V × cr_V × cr_XT) => (r, u.2) = out) (fun u t => cr_at D A ((fun u : (Nat → Nat → Nat → Nat) × cr_V × cr_V × cr_V × cr_XT => cr_wN ct 17 bg u.2.1 ++ (cr_wN ct 52 bl u.2.2.1 ++ (cr_wN ct 12 bc u.2.2.2.1 ++ cr_wXt ct a u.1 u.2.2.2.2))) u) t) A) args s 1 25 A) (F0 m 233 ls [.int s0]) := by
    intro  wg wl wc vX s0 hE r H locs ls hW hl
    replace hE : (f_L_acts_240 wg wl wc vX (-2000000002) s0) = some out := hE
    refine cr_ldc C k0 dL_acts_233 ?_
    refine lv_goto (tgt := 240) hx hb dL_acts_235 (by decide) ?_
    exact n240 wg wl wc vX (-2000000002) s0 hE _ _ _ _ hW (lv_sub hl [] rfl)
  have n202 :  ∀ (wg : cr_V) (wl : cr_V) (wc : cr_V) (vX : cr_XT) (x7 : Int32) (x8 : Int32) (hE : f_L_acts_202  wg wl wc vX x7 x8 = some out) (r : Nat → Nat → Nat → Nat) (H : Heap) (locs : List Loc) (ls : Array Slot) (hW : cr_wd D A s (cr_wN ct 17 bg wg ++ (cr_wN ct 52 bl wl ++ (cr_wN ct 12 bc wc ++ cr_wXt ct a r vX))) H locs) (hl : lv_has ls 12 [(0, .ref (a 0 0)), (1, .ref (bg 0)), (7, .int x7), (8, .int x8)]), W p L e ({ frames := 6, cells := 1, slots := 25, locals := 142 } : Room) s m args below meth c H locs 0 0 (MQ below (va_Qi (fun r (u : (Nat → Nat → Nat → Nat) × cr_V × cr_V × cr_V × cr_XT) => (r, u.2) = out) (fun u t => cr_at D A ((fun u : (Nat → Nat → Nat → Nat) × cr_V × cr_V × cr_V × cr_XT => cr_wN ct 17 bg u.2.1 ++ (cr_wN ct 52 bl u.2.2.1 ++ (cr_wN ct 12 bc u.2.2.2.1 ++ cr_wXt ct a u.1 u.2.2.2.2))) u) t) A) args s 1 25 A) (F0 m 202 ls []) := by
    intro  wg wl wc vX x7 x8 hE r H locs ls hW hl
    replace hE : ((f_X6_sell vX.1 vX.2.1 vX.2.2.1 vX.2.2.2.1 vX.2.2.2.2.1 vX.2.2.2.2.2.1 vX.2.2.2.2.2.2.1 vX.2.2.2.2.2.2.2.1 vX.2.2.2.2.2.2.2.2.1 vX.2.2.2.2.2.2.2.2.2 x7 x8).bind fun q4 => if x7 < (wg 0 0) then (f_L_acts_233 wg wl wc (cl_uX q4.2 vX) q4.1) else (if (((wg 0 9) >>> ((x7 - x7 / 12 * 12) &&& 31)) &&& 1) = 0 then (f_L_acts_233 wg wl wc (cl_uX q4.2 vX) q4.1) else (f_L_acts_240 wg wl wc (cl_uX q4.2 vX) (-2000000003) q4.1))) = some out := hE
    refine lv_aload_n hx hb dL_acts_202 rfl (lv_at hl 0 rfl) ?_
    refine lv_iload hx hb dL_acts_203 (lv_at hl 2 rfl) ?_
    refine lv_iload hx hb dL_acts_205 (lv_at hl 3 rfl) ?_
    obtain ⟨q4, hq4, hE⟩ := cr_bind hE
    refine cl_vWBr (nb := 4) (n := 2) (As := [.int x7, .int x8]) (rest := []) C hW (m_X6_sell L D ct a r vX.1 vX.2.1 vX.2.2.1 vX.2.2.2.1 vX.2.2.2.2.1 vX.2.2.2.2.2.1 vX.2.2.2.2.2.2.1 vX.2.2.2.2.2.2.2.1 vX.2.2.2.2.2.2.2.2.1 vX.2.2.2.2.2.2.2.2.2 x7 x8 _ q4 hq4) (cwV 2 hts gL_acts_X6_sell rfl rfl rfl (by decide +kernel) ⟨Nat.le_of_ble_eq_true rfl, Nat.le_of_ble_eq_true rfl⟩) [3] [0, 1, 2] [cr_wN ct 17 bg wg, cr_wN ct 52 bl wl, cr_wN ct 12 bc wc, cr_wXt ct a r vX] (fun r => cr_wN ct 17 bg wg ++ (cr_wN ct 52 bl wl ++ (cr_wN ct 12 bc wc ++ cr_wXt ct a r (cl_uX q4.2 vX)))) (fun r => [cr_wN ct 17 bg wg, cr_wN ct 52 bl wl, cr_wN ct 12 bc wc, cr_wXt ct a r (cl_uX q4.2 vX)]) ⟨rfl, rfl⟩ (fun _ => ⟨rfl, rfl⟩) rfl (fun _ => rfl) (fun _ => rfl) (by decide) 3 rfl rfl rfl hl.1 rfl (Nat.le_of_ble_eq_true rfl) dL_acts_207 ⟨Nat.le_of_ble_eq_true rfl, Nat.le_of_ble_eq_true rfl⟩ (fun r H locs hW => ?_)
    refine lv_iload hx hb dL_acts_210 (lv_at hl 2 rfl) ?_
    refine lv_aload_n hx hb dL_acts_212 rfl (lv_at hl 1 rfl) ?_
    refine lv_iconst (v := 0) hx hb dL_acts_213 (by decide) ?_
    refine cr_ald C hW.1 0 (f := wg 0) (k := 0) rfl (by decide) (by decide) dL_acts_214 ?_
    refine lv_icmp_lt (tgt := 233) hx hb dL_acts_215 (by decide) (fun c5 => ?_) (fun c5 => ?_)
    · rw [if_pos c5] at hE
      exact n233 wg wl wc (cl_uX q4.2 vX) q4.1 hE _ _ _ _ hW (lv_sub hl [] rfl)
    · rw [if_neg c5] at hE
      refine lv_aload_n hx hb dL_acts_218 rfl (lv_at hl 1 rfl) ?_
      refine lv_bipush (v := 9) hx hb dL_acts_219 (by decide) ?_
      refine cr_ald C hW.1 0 (f := wg 0) (k := 9) rfl (by decide) (by decide) dL_acts_221 ?_
      refine lv_iload hx hb dL_acts_222 (lv_at hl 2 rfl) ?_
      refine lv_bipush (v := 12) hx hb dL_acts_224 (by decide) ?_
      refine lv_irem hx hb dL_acts_226 (by decide) ?_
      refine lv_ishr hx hb dL_acts_227 ?_
      refine lv_iconst (v := 1) hx hb dL_acts_228 (by decide) ?_
      refine lv_iand hx hb dL_acts_229 ?_
      refine lv_if_ne (tgt := 238) hx hb dL_acts_230 (by decide) (fun c6 => ?_) (fun c6 => ?_)
      · rw [if_neg c6] at hE
        refine cr_ldc C k1 dL_acts_238 ?_
        exact n240 wg wl wc (cl_uX q4.2 vX) (-2000000003) q4.1 hE _ _ _ _ hW (lv_sub hl [] rfl)
      · rw [if_pos c6] at hE
        exact n233 wg wl wc (cl_uX q4.2 vX) q4.1 hE _ _ _ _ hW (lv_sub hl [] rfl)
  have n151 :  ∀ (wg : cr_V) (wl : cr_V) (wc : cr_V) (vX : cr_XT) (x7 : Int32) (x8 : Int32) (hE : f_L_acts_151  wg wl wc vX x7 x8 = some out) (r : Nat → Nat → Nat → Nat) (H : Heap) (locs : List Loc) (ls : Array Slot) (hW : cr_wd D A s (cr_wN ct 17 bg wg ++ (cr_wN ct 52 bl wl ++ (cr_wN ct 12 bc wc ++ cr_wXt ct a r vX))) H locs) (hl : lv_has ls 12 [(0, .ref (a 0 0)), (7, .int x7), (8, .int x8)]), W p L e ({ frames := 6, cells := 1, slots := 25, locals := 142 } : Room) s m args below meth c H locs 0 0 (MQ below (va_Qi (fun r (u : (Nat → Nat → Nat → Nat) × cr_V × cr_V × cr_V × cr_XT) => (r, u.2) = out) (fun u t => cr_at D A ((fun u : (Nat → Nat → Nat → Nat) × cr_V × cr_V × cr_V × cr_XT => cr_wN ct 17 bg u.2.1 ++ (cr_wN ct 52 bl u.2.2.1 ++ (cr_wN ct 12 bc u.2.2.2.1 ++ cr_wXt ct a u.1 u.2.2.2.2))) u) t) A) args s 1 25 A) (F0 m 151 ls []) := by
    intro  wg wl wc vX x7 x8 hE r H locs ls hW hl
    replace hE : ((f_X6_sell vX.1 vX.2.1 vX.2.2.1 vX.2.2.2.1 vX.2.2.2.2.1 vX.2.2.2.2.2.1 vX.2.2.2.2.2.2.1 vX.2.2.2.2.2.2.2.1 vX.2.2.2.2.2.2.2.2.1 vX.2.2.2.2.2.2.2.2.2 x7 x8).bind fun q7 => if q7.1 = (-2000000001) then (some (1, wg, wl, wc, (cl_uX q7.2 vX))) else (some (0, wg, wl, wc, (cl_uX q7.2 vX)))) = some out := hE
    refine lv_aload_n hx hb dL_acts_151 rfl (lv_at hl 0 rfl) ?_
    refine lv_iload hx hb dL_acts_152 (lv_at hl 1 rfl) ?_
    refine lv_iload hx hb dL_acts_154 (lv_at hl 2 rfl) ?_
    obtain ⟨q7, hq7, hE⟩ := cr_bind hE
    refine cl_vWBr (nb := 4) (n := 2) (As := [.int x7, .int x8]) (rest := []) C hW (m_X6_sell L D ct a r vX.1 vX.2.1 vX.2.2.1 vX.2.2.2.1 vX.2.2.2.2.1 vX.2.2.2.2.2.1 vX.2.2.2.2.2.2.1 vX.2.2.2.2.2.2.2.1 vX.2.2.2.2.2.2.2.2.1 vX.2.2.2.2.2.2.2.2.2 x7 x8 _ q7 hq7) (cwV 2 hts gL_acts_X6_sell rfl rfl rfl (by decide +kernel) ⟨Nat.le_of_ble_eq_true rfl, Nat.le_of_ble_eq_true rfl⟩) [3] [0, 1, 2] [cr_wN ct 17 bg wg, cr_wN ct 52 bl wl, cr_wN ct 12 bc wc, cr_wXt ct a r vX] (fun r => cr_wN ct 17 bg wg ++ (cr_wN ct 52 bl wl ++ (cr_wN ct 12 bc wc ++ cr_wXt ct a r (cl_uX q7.2 vX)))) (fun r => [cr_wN ct 17 bg wg, cr_wN ct 52 bl wl, cr_wN ct 12 bc wc, cr_wXt ct a r (cl_uX q7.2 vX)]) ⟨rfl, rfl⟩ (fun _ => ⟨rfl, rfl⟩) rfl (fun _ => rfl) (fun _ => rfl) (by decide) 3 rfl rfl rfl hl.1 rfl (Nat.le_of_ble_eq_true rfl) dL_acts_156 ⟨Nat.le_of_ble_eq_true rfl, Nat.le_of_ble_eq_true rfl⟩ (fun r H locs hW => ?_)
    refine cr_ldc C k2 dL_acts_159 ?_
    refine lv_icmp_ne (tgt := 168) hx hb dL_acts_161 (by decide) (fun c8 => ?_) (fun c8 => ?_)
    · rw [if_neg c8] at hE
      refine lv_iconst (v := 0) hx hb dL_acts_168 (by decide) ?_
      refine W.widen (k := 1) (n := 25) (Nat.le_of_ble_eq_true rfl) (Nat.le_of_ble_eq_true rfl) ?_
      exact cr_retWz C (w := (fun u : (Nat → Nat → Nat → Nat) × cr_V × cr_V × cr_V × cr_XT => cr_wN ct 17 bg u.2.1 ++ (cr_wN ct 52 bl u.2.2.1 ++ (cr_wN ct 12 bc u.2.2.2.1 ++ cr_wXt ct a u.1 u.2.2.2.2)))) (r, wg, wl, wc, (cl_uX q7.2 vX)) hW rfl (Option.some.inj hE) dL_acts_169
    · rw [if_pos c8] at hE
      refine lv_iconst (v := 1) hx hb dL_acts_164 (by decide) ?_
      refine lv_goto (tgt := 169) hx hb dL_acts_165 (by decide) ?_
      refine W.widen (k := 1) (n := 25) (Nat.le_of_ble_eq_true rfl) (Nat.le_of_ble_eq_true rfl) ?_
      exact cr_retWz C (w := (fun u : (Nat → Nat → Nat → Nat) × cr_V × cr_V × cr_V × cr_XT => cr_wN ct 17 bg u.2.1 ++ (cr_wN ct 52 bl u.2.2.1 ++ (cr_wN ct 12 bc u.2.2.2.1 ++ cr_wXt ct a u.1 u.2.2.2.2)))) (r, wg, wl, wc, (cl_uX q7.2 vX)) hW rfl (Option.some.inj hE) dL_acts_169
  have n134 :  ∀ (wg : cr_V) (wl : cr_V) (wc : cr_V) (vX : cr_XT) (x7 : Int32) (s0 : Int32) (s1 : Int32) (s2 : Int32) (hE : f_L_acts_134  wg wl wc vX x7 s0 s1 s2 = some out) (r : Nat → Nat → Nat → Nat) (H : Heap) (locs : List Loc) (ls : Array Slot) (hW : cr_wd D A s (cr_wN ct 17 bg wg ++ (cr_wN ct 52 bl wl ++ (cr_wN ct 12 bc wc ++ cr_wXt ct a r vX))) H locs) (hl : lv_has ls 12 [(0, .ref (a 0 0)), (1, .ref (bg 0)), (3, .ref (bc 0)), (7, .int x7)]), W p L e ({ frames := 6, cells := 1, slots := 25, locals := 142 } : Room) s m args below meth c H locs 0 0 (MQ below (va_Qi (fun r (u : (Nat → Nat → Nat → Nat) × cr_V × cr_V × cr_V × cr_XT) => (r, u.2) = out) (fun u t => cr_at D A ((fun u : (Nat → Nat → Nat → Nat) × cr_V × cr_V × cr_V × cr_XT => cr_wN ct 17 bg u.2.1 ++ (cr_wN ct 52 bl u.2.2.1 ++ (cr_wN ct 12 bc u.2.2.2.1 ++ cr_wXt ct a u.1 u.2.2.2.2))) u) t) A) args s 1 25 A) (F0 m 134 ls [.int s0, .int s1, .int s2]) := by
    intro  wg wl wc vX x7 s0 s1 s2 hE r H locs ls hW hl
    replace hE : (if s0 = 0 then none else if x7 < 0 then (f_L_acts_151 wg wl wc vX x7 (s2 + (s1 - s1 / s0 * s0))) else (if x7 ≤ 999 then (if x7 < (wg 0 0) then (f_L_acts_202 wg wl wc vX x7 (s2 + (s1 - s1 / s0 * s0))) else (if (((wg 0 9) >>> ((x7 - x7 / 12 * 12) &&& 31)) &&& 1) = 0 then (f_L_acts_202 wg wl wc vX x7 (s2 + (s1 - s1 / s0 * s0))) else (if (wg 0 7) = 6 then (f_L_acts_202 wg wl wc vX x7 (s2 + (s1 - s1 / s0 * s0))) else (if cr_in (2 * (wg 0 7)) 12 = true then if cr_in ((2 * (wg 0 7)) + 1) 12 = true then (f_X6_sell vX.1 vX.2.1 vX.2.2.1 vX.2.2.2.1 vX.2.2.2.2.1 vX.2.2.2.2.2.1 vX.2.2.2.2.2.2.1 vX.2.2.2.2.2.2.2.1 vX.2.2.2.2.2.2.2.2.1 vX.2.2.2.2.2.2.2.2.2 x7 (s2 + (s1 - s1 / s0 * s0))).bind fun q17 => if q17.1 = (((cr_a wg 0 7 ((wg 0 7) + 1)) 0 7) - 1) then (some (1, cr_a wg 0 7 ((wg 0 7) + 1), wl, cr_a (cr_a wc 0 (cr_x (2 * (wg 0 7))) x7) 0 (cr_x ((2 * (wg 0 7)) + 1)) (s2 + (s1 - s1 / s0 * s0)), (cl_uX q17.2 vX))) else (some (0, cr_a wg 0 7 ((wg 0 7) + 1), wl, cr_a (cr_a wc 0 (cr_x (2 * (wg 0 7))) x7) 0 (cr_x ((2 * (wg 0 7)) + 1)) (s2 + (s1 - s1 / s0 * s0)), (cl_uX q17.2 vX))) else none else none)))) else (f_L_acts_151 wg wl wc vX x7 (s2 + (s1 - s1 / s0 * s0))))) = some out := hE
    obtain ⟨z9, hE⟩ := cr_ifz hE
    refine lv_irem hx hb dL_acts_134 z9 ?_
    refine lv_iadd hx hb dL_acts_135 ?_
    refine lv_istore (lv' := [(8, .int (s2 + (s1 - s1 / s0 * s0))), (0, .ref (a 0 0)), (1, .ref (bg 0)), (3, .ref (bc 0)), (7, .int x7)]) hx hb dL_acts_136 hl (by decide) rfl (fun ls hl => ?_)
    refine lv_iload hx hb dL_acts_138 (lv_at hl 4 rfl) ?_
    refine lv_if_lt (tgt := 151) hx hb dL_acts_140 (by decide) (fun c10 => ?_) (fun c10 => ?_)
    · rw [if_pos c10] at hE
      exact n151 wg wl wc vX x7 (s2 + (s1 - s1 / s0 * s0)) hE _ _ _ _ hW (lv_sub hl [1, 4, 0] rfl)
    · rw [if_neg c10] at hE
      refine lv_iload hx hb dL_acts_143 (lv_at hl 4 rfl) ?_
      refine lv_sipush (v := 999) hx hb dL_acts_145 (by decide) ?_
      refine lv_icmp_le (tgt := 170) hx hb dL_acts_148 (by decide) (fun c11 => ?_) (fun c11 => ?_)
      · rw [if_pos c11] at hE
        refine lv_iload hx hb dL_acts_170 (lv_at hl 4 rfl) ?_
        refine lv_aload_n hx hb dL_acts_172 rfl (lv_at hl 2 rfl) ?_
        refine lv_iconst (v := 0) hx hb dL_acts_173 (by decide) ?_
        refine cr_ald C hW.1 0 (f := wg 0) (k := 0) rfl (by decide) (by decide) dL_acts_174 ?_
        refine lv_icmp_lt (tgt := 202) hx hb dL_acts_175 (by decide) (fun c12 => ?_) (fun c12 => ?_)
        · rw [if_pos c12] at hE
          exact n202 wg wl wc vX x7 (s2 + (s1 - s1 / s0 * s0)) hE _ _ _ _ hW (lv_sub hl [1, 2, 4, 0] rfl)
        · rw [if_neg c12] at hE
          refine lv_aload_n hx hb dL_acts_178 rfl (lv_at hl 2 rfl) ?_
          refine lv_bipush (v := 9) hx hb dL_acts_179 (by decide) ?_
          refine cr_ald C hW.1 0 (f := wg 0) (k := 9) rfl (by decide) (by decide) dL_acts_181 ?_
          refine lv_iload hx hb dL_acts_182 (lv_at hl 4 rfl) ?_
          refine lv_bipush (v := 12) hx hb dL_acts_184 (by decide) ?_
          refine lv_irem hx hb dL_acts_186 (by decide) ?_
          refine lv_ishr hx hb dL_acts_187 ?_
          refine lv_iconst (v := 1) hx hb dL_acts_188 (by decide) ?_
          refine lv_iand hx hb dL_acts_189 ?_
          refine lv_if_eq (tgt := 202) hx hb dL_acts_190 (by decide) (fun c13 => ?_) (fun c13 => ?_)
          · rw [if_pos c13] at hE
            exact n202 wg wl wc vX x7 (s2 + (s1 - s1 / s0 * s0)) hE _ _ _ _ hW (lv_sub hl [1, 2, 4, 0] rfl)
          · rw [if_neg c13] at hE
            refine lv_aload_n hx hb dL_acts_193 rfl (lv_at hl 2 rfl) ?_
            refine lv_bipush (v := 7) hx hb dL_acts_194 (by decide) ?_
            refine cr_ald C hW.1 0 (f := wg 0) (k := 7) rfl (by decide) (by decide) dL_acts_196 ?_
            refine lv_bipush (v := 6) hx hb dL_acts_197 (by decide) ?_
            refine lv_icmp_ne (tgt := 249) hx hb dL_acts_199 (by decide) (fun c14 => ?_) (fun c14 => ?_)
            · rw [if_neg c14] at hE
              refine lv_aload_n hx hb dL_acts_249 rfl (lv_at hl 3 rfl) ?_
              refine lv_iconst (v := 2) hx hb dL_acts_250 (by decide) ?_
              refine lv_aload_n hx hb dL_acts_251 rfl (lv_at hl 2 rfl) ?_
              refine lv_bipush (v := 7) hx hb dL_acts_252 (by decide) ?_
              refine cr_ald C hW.1 0 (f := wg 0) (k := 7) rfl (by decide) (by decide) dL_acts_254 ?_
              refine lv_imul hx hb dL_acts_255 ?_
              refine lv_iload hx hb dL_acts_256 (lv_at hl 4 rfl) ?_
              obtain ⟨i15, hE⟩ := cr_ifn hE
              refine cr_ast C hW 2 rfl (k := (cr_x (2 * (wg 0 7)))) i15 (cr_xe _) (w' := cr_wN ct 17 bg wg ++ (cr_wN ct 52 bl wl ++ (cr_wN ct 12 bc (cr_a wc 0 (cr_x (2 * (wg 0 7))) x7) ++ cr_wXt ct a r vX))) rfl dL_acts_258 (fun H locs hW => ?_)
              refine lv_aload_n hx hb dL_acts_259 rfl (lv_at hl 3 rfl) ?_
              refine lv_iconst (v := 2) hx hb dL_acts_260 (by decide) ?_
              refine lv_aload_n hx hb dL_acts_261 rfl (lv_at hl 2 rfl) ?_
              refine lv_bipush (v := 7) hx hb dL_acts_262 (by decide) ?_
              refine cr_ald C hW.1 0 (f := wg 0) (k := 7) rfl (by decide) (by decide) dL_acts_264 ?_
              refine lv_imul hx hb dL_acts_265 ?_
              refine lv_iconst (v := 1) hx hb dL_acts_266 (by decide) ?_
              refine lv_iadd hx hb dL_acts_267 ?_
              refine lv_iload hx hb dL_acts_268 (lv_at hl 0 rfl) ?_
              obtain ⟨i16, hE⟩ := cr_ifn hE
              refine cr_ast C hW 2 rfl (k := (cr_x ((2 * (wg 0 7)) + 1))) i16 (cr_xe _) (w' := cr_wN ct 17 bg wg ++ (cr_wN ct 52 bl wl ++ (cr_wN ct 12 bc (cr_a (cr_a wc 0 (cr_x (2 * (wg 0 7))) x7) 0 (cr_x ((2 * (wg 0 7)) + 1)) (s2 + (s1 - s1 / s0 * s0))) ++ cr_wXt ct a r vX))) rfl dL_acts_270 (fun H locs hW => ?_)
              refine lv_aload_n hx hb dL_acts_271 rfl (lv_at hl 2 rfl) ?_
              refine lv_bipush (v := 7) hx hb dL_acts_272 (by decide) ?_
              refine lv_dup2_11 hx hb dL_acts_274 rfl rfl ?_
              refine cr_ald C hW.1 0 (f := wg 0) (k := 7) rfl (by decide) (by decide) dL_acts_275 ?_
              refine lv_iconst (v := 1) hx hb dL_acts_276 (by decide) ?_
              refine lv_iadd hx hb dL_acts_277 ?_
              refine cr_ast C hW 0 rfl (k := 7) (by decide) (by decide) (w' := cr_wN ct 17 bg (cr_a wg 0 7 ((wg 0 7) + 1)) ++ (cr_wN ct 52 bl wl ++ (cr_wN ct 12 bc (cr_a (cr_a wc 0 (cr_x (2 * (wg 0 7))) x7) 0 (cr_x ((2 * (wg 0 7)) + 1)) (s2 + (s1 - s1 / s0 * s0))) ++ cr_wXt ct a r vX))) rfl dL_acts_278 (fun H locs hW => ?_)
              refine lv_aload_n hx hb dL_acts_279 rfl (lv_at hl 1 rfl) ?_
              refine lv_iload hx hb dL_acts_280 (lv_at hl 4 rfl) ?_
              refine lv_iload hx hb dL_acts_282 (lv_at hl 0 rfl) ?_
              obtain ⟨q17, hq17, hE⟩ := cr_bind hE
              refine cl_vWBr (nb := 4) (n := 2) (As := [.int x7, .int (s2 + (s1 - s1 / s0 * s0))]) (rest := []) C hW (m_X6_sell L D ct a r vX.1 vX.2.1 vX.2.2.1 vX.2.2.2.1 vX.2.2.2.2.1 vX.2.2.2.2.2.1 vX.2.2.2.2.2.2.1 vX.2.2.2.2.2.2.2.1 vX.2.2.2.2.2.2.2.2.1 vX.2.2.2.2.2.2.2.2.2 x7 (s2 + (s1 - s1 / s0 * s0)) _ q17 hq17) (cwV 2 hts gL_acts_X6_sell rfl rfl rfl (by decide +kernel) ⟨Nat.le_of_ble_eq_true rfl, Nat.le_of_ble_eq_true rfl⟩) [3] [0, 1, 2] [cr_wN ct 17 bg (cr_a wg 0 7 ((wg 0 7) + 1)), cr_wN ct 52 bl wl, cr_wN ct 12 bc (cr_a (cr_a wc 0 (cr_x (2 * (wg 0 7))) x7) 0 (cr_x ((2 * (wg 0 7)) + 1)) (s2 + (s1 - s1 / s0 * s0))), cr_wXt ct a r vX] (fun r => cr_wN ct 17 bg (cr_a wg 0 7 ((wg 0 7) + 1)) ++ (cr_wN ct 52 bl wl ++ (cr_wN ct 12 bc (cr_a (cr_a wc 0 (cr_x (2 * (wg 0 7))) x7) 0 (cr_x ((2 * (wg 0 7)) + 1)) (s2 + (s1 - s1 / s0 * s0))) ++ cr_wXt ct a r (cl_uX q17.2 vX)))) (fun r => [cr_wN ct 17 bg (cr_a wg 0 7 ((wg 0 7) + 1)), cr_wN ct 52 bl wl, cr_wN ct 12 bc (cr_a (cr_a wc 0 (cr_x (2 * (wg 0 7))) x7) 0 (cr_x ((2 * (wg 0 7)) + 1)) (s2 + (s1 - s1 / s0 * s0))), cr_wXt ct a r (cl_uX q17.2 vX)]) ⟨rfl, rfl⟩ (fun _ => ⟨rfl, rfl⟩) rfl (fun _ => rfl) (fun _ => rfl) (by decide) 3 rfl rfl rfl hl.1 rfl (Nat.le_of_ble_eq_true rfl) dL_acts_284 ⟨Nat.le_of_ble_eq_true rfl, Nat.le_of_ble_eq_true rfl⟩ (fun r H locs hW => ?_)
              refine lv_aload_n hx hb dL_acts_287 rfl (lv_at hl 2 rfl) ?_
              refine lv_bipush (v := 7) hx hb dL_acts_288 (by decide) ?_
              refine cr_ald C hW.1 0 (f := (cr_a wg 0 7 ((wg 0 7) + 1)) 0) (k := 7) rfl (by decide) (by decide) dL_acts_290 ?_
              refine lv_iconst (v := 1) hx hb dL_acts_291 (by decide) ?_
              refine lv_isub hx hb dL_acts_292 ?_
              refine lv_icmp_ne (tgt := 300) hx hb dL_acts_293 (by decide) (fun c18 => ?_) (fun c18 => ?_)
              · rw [if_neg c18] at hE
                refine lv_iconst (v := 0) hx hb dL_acts_300 (by decide) ?_
                refine W.widen (k := 1) (n := 25) (Nat.le_of_ble_eq_true rfl) (Nat.le_of_ble_eq_true rfl) ?_
                exact cr_retWz C (w := (fun u : (Nat → Nat → Nat → Nat) × cr_V × cr_V × cr_V × cr_XT => cr_wN ct 17 bg u.2.1 ++ (cr_wN ct 52 bl u.2.2.1 ++ (cr_wN ct 12 bc u.2.2.2.1 ++ cr_wXt ct a u.1 u.2.2.2.2)))) (r, cr_a wg 0 7 ((wg 0 7) + 1), wl, cr_a (cr_a wc 0 (cr_x (2 * (wg 0 7))) x7) 0 (cr_x ((2 * (wg 0 7)) + 1)) (s2 + (s1 - s1 / s0 * s0)), (cl_uX q17.2 vX)) hW rfl (Option.some.inj hE) dL_acts_301
              · rw [if_pos c18] at hE
                refine lv_iconst (v := 1) hx hb dL_acts_296 (by decide) ?_
                refine lv_goto (tgt := 301) hx hb dL_acts_297 (by decide) ?_
                refine W.widen (k := 1) (n := 25) (Nat.le_of_ble_eq_true rfl) (Nat.le_of_ble_eq_true rfl) ?_
                exact cr_retWz C (w := (fun u : (Nat → Nat → Nat → Nat) × cr_V × cr_V × cr_V × cr_XT => cr_wN ct 17 bg u.2.1 ++ (cr_wN ct 52 bl u.2.2.1 ++ (cr_wN ct 12 bc u.2.2.2.1 ++ cr_wXt ct a u.1 u.2.2.2.2)))) (r, cr_a wg 0 7 ((wg 0 7) + 1), wl, cr_a (cr_a wc 0 (cr_x (2 * (wg 0 7))) x7) 0 (cr_x ((2 * (wg 0 7)) + 1)) (s2 + (s1 - s1 / s0 * s0)), (cl_uX q17.2 vX)) hW rfl (Option.some.inj hE) dL_acts_301
            · rw [if_pos c14] at hE
              exact n202 wg wl wc vX x7 (s2 + (s1 - s1 / s0 * s0)) hE _ _ _ _ hW (lv_sub hl [1, 2, 4, 0] rfl)
      · rw [if_neg c11] at hE
        exact n151 wg wl wc vX x7 (s2 + (s1 - s1 / s0 * s0)) hE _ _ _ _ hW (lv_sub hl [1, 4, 0] rfl)
  have n109 :  ∀ (wg : cr_V) (wl : cr_V) (wc : cr_V) (vX : cr_XT) (x5 : Int32) (s0 : Int32) (s1 : Int32) (hE : f_L_acts_109  wg wl wc vX x5 s0 s1 = some out) (r : Nat → Nat → Nat → Nat) (H : Heap) (locs : List Loc) (ls : Array Slot) (hW : cr_wd D A s (cr_wN ct 17 bg wg ++ (cr_wN ct 52 bl wl ++ (cr_wN ct 12 bc wc ++ cr_wXt ct a r vX))) H locs) (hl : lv_has ls 12 [(0, .ref (a 0 0)), (1, .ref (bg 0)), (3, .ref (bc 0)), (5, .int x5)]), W p L e ({ frames := 6, cells := 1, slots := 25, locals := 142 } : Room) s m args below meth c H locs 0 0 (MQ below (va_Qi (fun r (u : (Nat → Nat → Nat → Nat) × cr_V × cr_V × cr_V × cr_XT) => (r, u.2) = out) (fun u t => cr_at D A ((fun u : (Nat → Nat → Nat → Nat) × cr_V × cr_V × cr_V × cr_XT => cr_wN ct 17 bg u.2.1 ++ (cr_wN ct 52 bl u.2.2.1 ++ (cr_wN ct 12 bc u.2.2.2.1 ++ cr_wXt ct a u.1 u.2.2.2.2))) u) t) A) args s 1 25 A) (F0 m 109 ls [.int s0, .int s1]) := by
    intro  wg wl wc vX x5 s0 s1 hE r H locs ls hW hl
    replace hE : (if (x5 - x5 / 4 * 4) = 0 then (f_L_acts_134 wg wl wc vX (s1 - s0) 999 (x5 / 40) 1) else (f_L_acts_134 wg wl wc vX (s1 - s0) 300 (x5 / 40) 1)) = some out := hE
    refine lv_isub hx hb dL_acts_109 ?_
    refine lv_istore (lv' := [(7, .int (s1 - s0)), (0, .ref (a 0 0)), (1, .ref (bg 0)), (3, .ref (bc 0)), (5, .int x5)]) hx hb dL_acts_110 hl (by decide) rfl (fun ls hl => ?_)
    refine lv_iconst (v := 1) hx hb dL_acts_112 (by decide) ?_
    refine lv_iload hx hb dL_acts_113 (lv_at hl 4 rfl) ?_
    refine lv_bipush (v := 40) hx hb dL_acts_115 (by decide) ?_
    refine lv_idiv hx hb dL_acts_117 (by decide) ?_
    refine lv_iload hx hb dL_acts_118 (lv_at hl 4 rfl) ?_
    refine lv_iconst (v := 4) hx hb dL_acts_120 (by decide) ?_
    refine lv_irem hx hb dL_acts_121 (by decide) ?_
    refine lv_if_ne (tgt := 131) hx hb dL_acts_122 (by decide) (fun c19 => ?_) (fun c19 => ?_)
    · rw [if_neg c19] at hE
      refine lv_sipush (v := 300) hx hb dL_acts_131 (by decide) ?_
      exact n134 wg wl wc vX (s1 - s0) 300 (x5 / 40) 1 hE _ _ _ _ hW (lv_sub hl [1, 2, 3, 0] rfl)
    · rw [if_pos c19] at hE
      refine lv_sipush (v := 999) hx hb dL_acts_125 (by decide) ?_
      refine lv_goto (tgt := 134) hx hb dL_acts_128 (by decide) ?_
      exact n134 wg wl wc vX (s1 - s0) 999 (x5 / 40) 1 hE _ _ _ _ hW (lv_sub hl [1, 2, 3, 0] rfl)
  have n94 :  ∀ (wg : cr_V) (wl : cr_V) (wc : cr_V) (vX : cr_XT) (x5 : Int32) (s0 : Int32) (s1 : Int32) (s2 : Int32) (hE : f_L_acts_94  wg wl wc vX x5 s0 s1 s2 = some out) (r : Nat → Nat → Nat → Nat) (H : Heap) (locs : List Loc) (ls : Array Slot) (hW : cr_wd D A s (cr_wN ct 17 bg wg ++ (cr_wN ct 52 bl wl ++ (cr_wN ct 12 bc wc ++ cr_wXt ct a r vX))) H locs) (hl : lv_has ls 12 [(0, .ref (a 0 0)), (1, .ref (bg 0)), (3, .ref (bc 0)), (5, .int x5)]), W p L e ({ frames := 6, cells := 1, slots := 25, locals := 142 } : Room) s m args below meth c H locs 0 0 (MQ below (va_Qi (fun r (u : (Nat → Nat → Nat → Nat) × cr_V × cr_V × cr_V × cr_XT) => (r, u.2) = out) (fun u t => cr_at D A ((fun u : (Nat → Nat → Nat → Nat) × cr_V × cr_V × cr_V × cr_XT => cr_wN ct 17 bg u.2.1 ++ (cr_wN ct 52 bl u.2.2.1 ++ (cr_wN ct 12 bc u.2.2.2.1 ++ cr_wXt ct a u.1 u.2.2.2.2))) u) t) A) args s 1 25 A) (F0 m 94 ls [.int s0, .int s1, .int s2]) := by
    intro  wg wl wc vX x5 s0 s1 s2 hE r H locs ls hW hl
    replace hE : (if s0 = 0 then none else if (x5 - x5 / 11 * 11) = 0 then (f_L_acts_109 wg wl wc vX x5 1 (s2 + (s1 - s1 / s0 * s0))) else (f_L_acts_109 wg wl wc vX x5 0 (s2 + (s1 - s1 / s0 * s0)))) = some out := hE
    obtain ⟨z20, hE⟩ := cr_ifz hE
    refine lv_irem hx hb dL_acts_94 z20 ?_
    refine lv_iadd hx hb dL_acts_95 ?_
    refine lv_iload hx hb dL_acts_96 (lv_at hl 3 rfl) ?_
    refine lv_bipush (v := 11) hx hb dL_acts_98 (by decide) ?_
    refine lv_irem hx hb dL_acts_100 (by decide) ?_
    refine lv_if_ne (tgt := 108) hx hb dL_acts_101 (by decide) (fun c21 => ?_) (fun c21 => ?_)
    · rw [if_neg c21] at hE
      refine lv_iconst (v := 0) hx hb dL_acts_108 (by decide) ?_
      exact n109 wg wl wc vX x5 0 (s2 + (s1 - s1 / s0 * s0)) hE _ _ _ _ hW (lv_sub hl [0, 1, 2, 3] rfl)
    · rw [if_pos c21] at hE
      refine lv_iconst (v := 1) hx hb dL_acts_104 (by decide) ?_
      refine lv_goto (tgt := 109) hx hb dL_acts_105 (by decide) ?_
      exact n109 wg wl wc vX x5 1 (s2 + (s1 - s1 / s0 * s0)) hE _ _ _ _ hW (lv_sub hl [0, 1, 2, 3] rfl)
  have n327 :  ∀ (wg : cr_V) (wl : cr_V) (wc : cr_V) (vX : cr_XT) (x5 : Int32) (x6 : Int32) (s0 : Int32) (hE : f_L_acts_327  wg wl wc vX x5 x6 s0 = some out) (r : Nat → Nat → Nat → Nat) (H : Heap) (locs : List Loc) (ls : Array Slot) (hW : cr_wd D A s (cr_wN ct 17 bg wg ++ (cr_wN ct 52 bl wl ++ (cr_wN ct 12 bc wc ++ cr_wXt ct a r vX))) H locs) (hl : lv_has ls 12 [(0, .ref (a 0 0)), (1, .ref (bg 0)), (2, .ref (bl 0)), (3, .ref (bc 0)), (5, .int x5), (6, .int x6)]), W p L e ({ frames := 6, cells := 1, slots := 25, locals := 142 } : Room) s m args below meth c H locs 0 0 (MQ below (va_Qi (fun r (u : (Nat → Nat → Nat → Nat) × cr_V × cr_V × cr_V × cr_XT) => (r, u.2) = out) (fun u t => cr_at D A ((fun u : (Nat → Nat → Nat → Nat) × cr_V × cr_V × cr_V × cr_XT => cr_wN ct 17 bg u.2.1 ++ (cr_wN ct 52 bl u.2.2.1 ++ (cr_wN ct 12 bc u.2.2.2.1 ++ cr_wXt ct a u.1 u.2.2.2.2))) u) t) A) args s 1 25 A) (F0 m 327 ls [.int s0]) := by
    intro  wg wl wc vX x5 x6 s0 hE r H locs ls hW hl
    replace hE : (if (wg 0 7) = 0 then ((f_X6_meet vX.1 vX.2.1 vX.2.2.1 vX.2.2.2.1 vX.2.2.2.2.1 vX.2.2.2.2.2.1 vX.2.2.2.2.2.2.1 vX.2.2.2.2.2.2.2.1 vX.2.2.2.2.2.2.2.2.1 vX.2.2.2.2.2.2.2.2.2 0).bind fun q28 => if q28.1 = (-2000000001) then ((f_X6_buyBack (cl_uM q28.2 vX).1 (cl_uM q28.2 vX).2.1 (cl_uM q28.2 vX).2.2.1 (cl_uM q28.2 vX).2.2.2.1 (cl_uM q28.2 vX).2.2.2.2.1 (cl_uM q28.2 vX).2.2.2.2.2.1 (cl_uM q28.2 vX).2.2.2.2.2.2.1 (cl_uM q28.2 vX).2.2.2.2.2.2.2.1 (cl_uM q28.2 vX).2.2.2.2.2.2.2.2.1 (cl_uM q28.2 vX).2.2.2.2.2.2.2.2.2 0 1).bind fun q30 => if q30.1 = (-2000000001) then (some (1, wg, wl, wc, (cl_uX q30.2 (cl_uM q28.2 vX)))) else (some (0, wg, wl, wc, (cl_uX q30.2 (cl_uM q28.2 vX))))) else (some (0, wg, wl, wc, (cl_uM q28.2 vX)))) else (if x6 = 15 then (if cr_in ((2 * s0) + 1) 12 = true then (f_L_close (cr_a wg 0 1 ((wg 0 1) + (((wg 0 8) * (wc 0 (cr_x ((2 * s0) + 1)))) - ((wg 0 8) * (1 + ((x5 / 6) - (x5 / 6) / 999 * 999)))))) wc s0).bind fun q25 => (f_X6_buyBack vX.1 vX.2.1 vX.2.2.1 vX.2.2.2.1 vX.2.2.2.2.1 vX.2.2.2.2.2.1 vX.2.2.2.2.2.2.1 vX.2.2.2.2.2.2.2.1 vX.2.2.2.2.2.2.2.2.1 vX.2.2.2.2.2.2.2.2.2 s0 (1 + ((x5 / 6) - (x5 / 6) / 999 * 999))).bind fun q26 => if q26.1 = (((wg 0 8) * (wc 0 (cr_x ((2 * s0) + 1)))) - ((wg 0 8) * (1 + ((x5 / 6) - (x5 / 6) / 999 * 999)))) then (some (1, q25.1, wl, q25.2, (cl_uX q26.2 vX))) else (some (0, q25.1, wl, q25.2, (cl_uX q26.2 vX))) else none) else (f_L_actsM (fun _ _ => 0) wg wl wc vX s0))) = some out := hE
    refine lv_istore (lv' := [(7, .int s0), (0, .ref (a 0 0)), (1, .ref (bg 0)), (2, .ref (bl 0)), (3, .ref (bc 0)), (5, .int x5), (6, .int x6)]) hx hb dL_acts_327 hl (by decide) rfl (fun ls hl => ?_)
    refine lv_aload_n hx hb dL_acts_329 rfl (lv_at hl 2 rfl) ?_
    refine lv_bipush (v := 7) hx hb dL_acts_330 (by decide) ?_
    refine cr_ald C hW.1 0 (f := wg 0) (k := 7) rfl (by decide) (by decide) dL_acts_332 ?_
    refine lv_if_ne (tgt := 363) hx hb dL_acts_333 (by decide) (fun c22 => ?_) (fun c22 => ?_)
    · rw [if_neg c22] at hE
      refine lv_iload hx hb dL_acts_363 (lv_at hl 6 rfl) ?_
      refine lv_bipush (v := 15) hx hb dL_acts_365 (by decide) ?_
      refine lv_icmp_ne (tgt := 440) hx hb dL_acts_367 (by decide) (fun c23 => ?_) (fun c23 => ?_)
      · rw [if_neg c23] at hE
        refine lv_bipush (v := 25) hx hb dL_acts_440 (by decide) ?_
        refine cr_newa (atype := .int) C hW k3 0 rfl rfl (N' := 25) (a0 := (25, .inl (fun _ => 0))) (fun _ => rfl) (by decide) (by decide) (Nat.le_of_ble_eq_true rfl) (Nat.le_of_ble_eq_true rfl) (Nat.le_of_ble_eq_true rfl) dL_acts_442 (fun qv H hW => ?_)
        exact m_L_actsM L D ct (fun _ => qv) bg bl bc a r (fun _ _ => 0) wg wl wc vX s0 out hE C H _ _ (hW.perm List.perm_append_comm) (lv_sub hl [1, 2, 3, 4, 0] rfl)
      · rw [if_pos c23] at hE
        refine lv_iconst (v := 1) hx hb dL_acts_370 (by decide) ?_
        refine lv_iload hx hb dL_acts_371 (lv_at hl 5 rfl) ?_
        refine lv_bipush (v := 6) hx hb dL_acts_373 (by decide) ?_
        refine lv_idiv hx hb dL_acts_375 (by decide) ?_
        refine lv_sipush (v := 999) hx hb dL_acts_376 (by decide) ?_
        refine lv_irem hx hb dL_acts_379 (by decide) ?_
        refine lv_iadd hx hb dL_acts_380 ?_
        refine lv_istore (lv' := [(8, .int (1 + ((x5 / 6) - (x5 / 6) / 999 * 999))), (7, .int s0), (0, .ref (a 0 0)), (1, .ref (bg 0)), (2, .ref (bl 0)), (3, .ref (bc 0)), (5, .int x5), (6, .int x6)]) hx hb dL_acts_381 hl (by decide) rfl (fun ls hl => ?_)
        refine lv_aload_n hx hb dL_acts_383 rfl (lv_at hl 3 rfl) ?_
        refine lv_bipush (v := 8) hx hb dL_acts_384 (by decide) ?_
        refine cr_ald C hW.1 0 (f := wg 0) (k := 8) rfl (by decide) (by decide) dL_acts_386 ?_
        refine lv_aload_n hx hb dL_acts_387 rfl (lv_at hl 5 rfl) ?_
        refine lv_iconst (v := 2) hx hb dL_acts_388 (by decide) ?_
        refine lv_iload hx hb dL_acts_389 (lv_at hl 1 rfl) ?_
        refine lv_imul hx hb dL_acts_391 ?_
        refine lv_iconst (v := 1) hx hb dL_acts_392 (by decide) ?_
        refine lv_iadd hx hb dL_acts_393 ?_
        obtain ⟨i24, hE⟩ := cr_ifn hE
        refine cr_ald C hW.1 2 (f := wc 0) (k := cr_x ((2 * s0) + 1)) rfl i24 (cr_xe _) dL_acts_394 ?_
        refine lv_imul hx hb dL_acts_395 ?_
        refine lv_aload_n hx hb dL_acts_396 rfl (lv_at hl 3 rfl) ?_
        refine lv_bipush (v := 8) hx hb dL_acts_397 (by decide) ?_
        refine cr_ald C hW.1 0 (f := wg 0) (k := 8) rfl (by decide) (by decide) dL_acts_399 ?_
        refine lv_iload hx hb dL_acts_400 (lv_at hl 0 rfl) ?_
        refine lv_imul hx hb dL_acts_402 ?_
        refine lv_isub hx hb dL_acts_403 ?_
        refine lv_istore (lv' := [(9, .int (((wg 0 8) * (wc 0 (cr_x ((2 * s0) + 1)))) - ((wg 0 8) * (1 + ((x5 / 6) - (x5 / 6) / 999 * 999))))), (8, .int (1 + ((x5 / 6) - (x5 / 6) / 999 * 999))), (7, .int s0), (0, .ref (a 0 0)), (1, .ref (bg 0)), (2, .ref (bl 0)), (3, .ref (bc 0)), (5, .int x5), (6, .int x6)]) hx hb dL_acts_404 hl (by decide) rfl (fun ls hl => ?_)
        refine lv_aload_n hx hb dL_acts_406 rfl (lv_at hl 4 rfl) ?_
        refine lv_iconst (v := 1) hx hb dL_acts_407 (by decide) ?_
        refine lv_dup2_11 hx hb dL_acts_408 rfl rfl ?_
        refine cr_ald C hW.1 0 (f := wg 0) (k := 1) rfl (by decide) (by decide) dL_acts_409 ?_
        refine lv_iload hx hb dL_acts_410 (lv_at hl 0 rfl) ?_
        refine lv_iadd hx hb dL_acts_412 ?_
        refine cr_ast C hW 0 rfl (k := 1) (by decide) (by decide) (w' := cr_wN ct 17 bg (cr_a wg 0 1 ((wg 0 1) + (((wg 0 8) * (wc 0 (cr_x ((2 * s0) + 1)))) - ((wg 0 8) * (1 + ((x5 / 6) - (x5 / 6) / 999 * 999)))))) ++ (cr_wN ct 52 bl wl ++ (cr_wN ct 12 bc wc ++ cr_wXt ct a r vX))) rfl dL_acts_413 (fun H locs hW => ?_)
        refine lv_aload_n hx hb dL_acts_414 rfl (lv_at hl 4 rfl) ?_
        refine lv_aload_n hx hb dL_acts_415 rfl (lv_at hl 6 rfl) ?_
        refine lv_iload hx hb dL_acts_416 (lv_at hl 2 rfl) ?_
        obtain ⟨q25, hq25, hE⟩ := cr_bind hE
        refine cl_sVB (nb := 4) (n := 3) (As := [.ref (bg 0), .ref (bc 0), .int s0]) (rest := []) C hW (m_L_close L D ct bg bc (cr_a wg 0 1 ((wg 0 1) + (((wg 0 8) * (wc 0 (cr_x ((2 * s0) + 1)))) - ((wg 0 8) * (1 + ((x5 / 6) - (x5 / 6) / 999 * 999)))))) wc s0 _ q25 hq25) (va_cwS 3 hts gL_acts_L_close rfl rfl rfl (by decide +kernel) ⟨Nat.le_of_ble_eq_true rfl, Nat.le_of_ble_eq_true rfl⟩) [0, 2] [1, 3] [cr_wN ct 17 bg (cr_a wg 0 1 ((wg 0 1) + (((wg 0 8) * (wc 0 (cr_x ((2 * s0) + 1)))) - ((wg 0 8) * (1 + ((x5 / 6) - (x5 / 6) / 999 * 999)))))), cr_wN ct 52 bl wl, cr_wN ct 12 bc wc, cr_wXt ct a r vX] (cr_wN ct 17 bg q25.1 ++ (cr_wN ct 52 bl wl ++ (cr_wN ct 12 bc q25.2 ++ cr_wXt ct a r vX))) [cr_wN ct 17 bg q25.1, cr_wN ct 52 bl wl, cr_wN ct 12 bc q25.2, cr_wXt ct a r vX] ⟨rfl, rfl⟩ ⟨rfl, rfl⟩ rfl rfl rfl (by decide) rfl hl.1 rfl (Nat.le_of_ble_eq_true rfl) dL_acts_418 ⟨Nat.le_of_ble_eq_true rfl, Nat.le_of_ble_eq_true rfl⟩ (fun H locs hW => ?_)
        refine lv_aload_n hx hb dL_acts_421 rfl (lv_at hl 3 rfl) ?_
        refine lv_iload hx hb dL_acts_422 (lv_at hl 2 rfl) ?_
        refine lv_iload hx hb dL_acts_424 (lv_at hl 1 rfl) ?_
        obtain ⟨q26, hq26, hE⟩ := cr_bind hE
        refine cl_vWBr (nb := 4) (n := 2) (As := [.int s0, .int (1 + ((x5 / 6) - (x5 / 6) / 999 * 999))]) (rest := []) C hW (m_X6_buyBack L D ct a r vX.1 vX.2.1 vX.2.2.1 vX.2.2.2.1 vX.2.2.2.2.1 vX.2.2.2.2.2.1 vX.2.2.2.2.2.2.1 vX.2.2.2.2.2.2.2.1 vX.2.2.2.2.2.2.2.2.1 vX.2.2.2.2.2.2.2.2.2 s0 (1 + ((x5 / 6) - (x5 / 6) / 999 * 999)) _ q26 hq26) (cwV 2 hts gL_acts_X6_buyBack rfl rfl rfl (by decide +kernel) ⟨Nat.le_of_ble_eq_true rfl, Nat.le_of_ble_eq_true rfl⟩) [3] [0, 1, 2] [cr_wN ct 17 bg q25.1, cr_wN ct 52 bl wl, cr_wN ct 12 bc q25.2, cr_wXt ct a r vX] (fun r => cr_wN ct 17 bg q25.1 ++ (cr_wN ct 52 bl wl ++ (cr_wN ct 12 bc q25.2 ++ cr_wXt ct a r (cl_uX q26.2 vX)))) (fun r => [cr_wN ct 17 bg q25.1, cr_wN ct 52 bl wl, cr_wN ct 12 bc q25.2, cr_wXt ct a r (cl_uX q26.2 vX)]) ⟨rfl, rfl⟩ (fun _ => ⟨rfl, rfl⟩) rfl (fun _ => rfl) (fun _ => rfl) (by decide) 3 rfl rfl rfl hl.1 rfl (Nat.le_of_ble_eq_true rfl) dL_acts_426 ⟨Nat.le_of_ble_eq_true rfl, Nat.le_of_ble_eq_true rfl⟩ (fun r H locs hW => ?_)
        refine lv_iload hx hb dL_acts_429 (lv_at hl 0 rfl) ?_
        refine lv_icmp_ne (tgt := 438) hx hb dL_acts_431 (by decide) (fun c27 => ?_) (fun c27 => ?_)
        · rw [if_neg c27] at hE
          refine lv_iconst (v := 0) hx hb dL_acts_438 (by decide) ?_
          refine W.widen (k := 1) (n := 25) (Nat.le_of_ble_eq_true rfl) (Nat.le_of_ble_eq_true rfl) ?_
          exact cr_retWz C (w := (fun u : (Nat → Nat → Nat → Nat) × cr_V × cr_V × cr_V × cr_XT => cr_wN ct 17 bg u.2.1 ++ (cr_wN ct 52 bl u.2.2.1 ++ (cr_wN ct 12 bc u.2.2.2.1 ++ cr_wXt ct a u.1 u.2.2.2.2)))) (r, q25.1, wl, q25.2, (cl_uX q26.2 vX)) hW rfl (Option.some.inj hE) dL_acts_439
        · rw [if_pos c27] at hE
          refine lv_iconst (v := 1) hx hb dL_acts_434 (by decide) ?_
          refine lv_goto (tgt := 439) hx hb dL_acts_435 (by decide) ?_
          refine W.widen (k := 1) (n := 25) (Nat.le_of_ble_eq_true rfl) (Nat.le_of_ble_eq_true rfl) ?_
          exact cr_retWz C (w := (fun u : (Nat → Nat → Nat → Nat) × cr_V × cr_V × cr_V × cr_XT => cr_wN ct 17 bg u.2.1 ++ (cr_wN ct 52 bl u.2.2.1 ++ (cr_wN ct 12 bc u.2.2.2.1 ++ cr_wXt ct a u.1 u.2.2.2.2)))) (r, q25.1, wl, q25.2, (cl_uX q26.2 vX)) hW rfl (Option.some.inj hE) dL_acts_439
    · rw [if_pos c22] at hE
      refine lv_aload_n hx hb dL_acts_336 rfl (lv_at hl 1 rfl) ?_
      refine lv_iconst (v := 0) hx hb dL_acts_337 (by decide) ?_
      obtain ⟨q28, hq28, hE⟩ := cr_bind hE
      refine cl_vWBr (nb := 4) (n := 1) (As := [.int 0]) (rest := []) C hW (m_X6_meet L D ct a r vX.1 vX.2.1 vX.2.2.1 vX.2.2.2.1 vX.2.2.2.2.1 vX.2.2.2.2.2.1 vX.2.2.2.2.2.2.1 vX.2.2.2.2.2.2.2.1 vX.2.2.2.2.2.2.2.2.1 vX.2.2.2.2.2.2.2.2.2 0 _ q28 hq28) (cwV 1 hts gL_acts_X6_meet rfl rfl rfl (by decide +kernel) ⟨Nat.le_of_ble_eq_true rfl, Nat.le_of_ble_eq_true rfl⟩) [3] [0, 1, 2] [cr_wN ct 17 bg wg, cr_wN ct 52 bl wl, cr_wN ct 12 bc wc, cr_wXt ct a r vX] (fun r => cr_wN ct 17 bg wg ++ (cr_wN ct 52 bl wl ++ (cr_wN ct 12 bc wc ++ cr_wXt ct a r (cl_uM q28.2 vX)))) (fun r => [cr_wN ct 17 bg wg, cr_wN ct 52 bl wl, cr_wN ct 12 bc wc, cr_wXt ct a r (cl_uM q28.2 vX)]) ⟨rfl, rfl⟩ (fun _ => ⟨rfl, rfl⟩) rfl (fun _ => rfl) (fun _ => rfl) (by decide) 3 rfl rfl rfl hl.1 rfl (Nat.le_of_ble_eq_true rfl) dL_acts_338 ⟨Nat.le_of_ble_eq_true rfl, Nat.le_of_ble_eq_true rfl⟩ (fun r H locs hW => ?_)
      refine cr_ldc C k2 dL_acts_341 ?_
      refine lv_icmp_ne (tgt := 361) hx hb dL_acts_343 (by decide) (fun c29 => ?_) (fun c29 => ?_)
      · rw [if_neg c29] at hE
        refine lv_iconst (v := 0) hx hb dL_acts_361 (by decide) ?_
        refine W.widen (k := 1) (n := 25) (Nat.le_of_ble_eq_true rfl) (Nat.le_of_ble_eq_true rfl) ?_
        exact cr_retWz C (w := (fun u : (Nat → Nat → Nat → Nat) × cr_V × cr_V × cr_V × cr_XT => cr_wN ct 17 bg u.2.1 ++ (cr_wN ct 52 bl u.2.2.1 ++ (cr_wN ct 12 bc u.2.2.2.1 ++ cr_wXt ct a u.1 u.2.2.2.2)))) (r, wg, wl, wc, (cl_uM q28.2 vX)) hW rfl (Option.some.inj hE) dL_acts_362
      · rw [if_pos c29] at hE
        refine lv_aload_n hx hb dL_acts_346 rfl (lv_at hl 1 rfl) ?_
        refine lv_iconst (v := 0) hx hb dL_acts_347 (by decide) ?_
        refine lv_iconst (v := 1) hx hb dL_acts_348 (by decide) ?_
        obtain ⟨q30, hq30, hE⟩ := cr_bind hE
        refine cl_vWBr (nb := 4) (n := 2) (As := [.int 0, .int 1]) (rest := []) C hW (m_X6_buyBack L D ct a r (cl_uM q28.2 vX).1 (cl_uM q28.2 vX).2.1 (cl_uM q28.2 vX).2.2.1 (cl_uM q28.2 vX).2.2.2.1 (cl_uM q28.2 vX).2.2.2.2.1 (cl_uM q28.2 vX).2.2.2.2.2.1 (cl_uM q28.2 vX).2.2.2.2.2.2.1 (cl_uM q28.2 vX).2.2.2.2.2.2.2.1 (cl_uM q28.2 vX).2.2.2.2.2.2.2.2.1 (cl_uM q28.2 vX).2.2.2.2.2.2.2.2.2 0 1 _ q30 hq30) (cwV 2 hts gL_acts_X6_buyBack rfl rfl rfl (by decide +kernel) ⟨Nat.le_of_ble_eq_true rfl, Nat.le_of_ble_eq_true rfl⟩) [3] [0, 1, 2] [cr_wN ct 17 bg wg, cr_wN ct 52 bl wl, cr_wN ct 12 bc wc, cr_wXt ct a r (cl_uM q28.2 vX)] (fun r => cr_wN ct 17 bg wg ++ (cr_wN ct 52 bl wl ++ (cr_wN ct 12 bc wc ++ cr_wXt ct a r (cl_uX q30.2 (cl_uM q28.2 vX))))) (fun r => [cr_wN ct 17 bg wg, cr_wN ct 52 bl wl, cr_wN ct 12 bc wc, cr_wXt ct a r (cl_uX q30.2 (cl_uM q28.2 vX))]) ⟨rfl, rfl⟩ (fun _ => ⟨rfl, rfl⟩) rfl (fun _ => rfl) (fun _ => rfl) (by decide) 3 rfl rfl rfl hl.1 rfl (Nat.le_of_ble_eq_true rfl) dL_acts_349 ⟨Nat.le_of_ble_eq_true rfl, Nat.le_of_ble_eq_true rfl⟩ (fun r H locs hW => ?_)
        refine cr_ldc C k2 dL_acts_352 ?_
        refine lv_icmp_ne (tgt := 361) hx hb dL_acts_354 (by decide) (fun c31 => ?_) (fun c31 => ?_)
        · rw [if_neg c31] at hE
          refine lv_iconst (v := 0) hx hb dL_acts_361 (by decide) ?_
          refine W.widen (k := 1) (n := 25) (Nat.le_of_ble_eq_true rfl) (Nat.le_of_ble_eq_true rfl) ?_
          exact cr_retWz C (w := (fun u : (Nat → Nat → Nat → Nat) × cr_V × cr_V × cr_V × cr_XT => cr_wN ct 17 bg u.2.1 ++ (cr_wN ct 52 bl u.2.2.1 ++ (cr_wN ct 12 bc u.2.2.2.1 ++ cr_wXt ct a u.1 u.2.2.2.2)))) (r, wg, wl, wc, (cl_uX q30.2 (cl_uM q28.2 vX))) hW rfl (Option.some.inj hE) dL_acts_362
        · rw [if_pos c31] at hE
          refine lv_iconst (v := 1) hx hb dL_acts_357 (by decide) ?_
          refine lv_goto (tgt := 362) hx hb dL_acts_358 (by decide) ?_
          refine W.widen (k := 1) (n := 25) (Nat.le_of_ble_eq_true rfl) (Nat.le_of_ble_eq_true rfl) ?_
          exact cr_retWz C (w := (fun u : (Nat → Nat → Nat → Nat) × cr_V × cr_V × cr_V × cr_XT => cr_wN ct 17 bg u.2.1 ++ (cr_wN ct 52 bl u.2.2.1 ++ (cr_wN ct 12 bc u.2.2.2.1 ++ cr_wXt ct a u.1 u.2.2.2.2)))) (r, wg, wl, wc, (cl_uX q30.2 (cl_uM q28.2 vX))) hW rfl (Option.some.inj hE) dL_acts_362
  have n709 : ∀ (k679_ : cr_V → cr_V → cr_V → cr_XT → Int32 → Int32 → Int32 → Option (Int32 × cr_V × cr_V × cr_V × cr_XT)) (ih679_ : ∀ (wg : cr_V) (wl : cr_V) (wc : cr_V) (vX : cr_XT) (x7 : Int32) (x8 : Int32) (x9 : Int32) (hE : k679_ wg wl wc vX x7 x8 x9 = some out) (r : Nat → Nat → Nat → Nat) (H : Heap) (locs : List Loc) (ls : Array Slot) (hW : cr_wd D A s (cr_wN ct 17 bg wg ++ (cr_wN ct 52 bl wl ++ (cr_wN ct 12 bc wc ++ cr_wXt ct a r vX))) H locs) (hl : lv_has ls 12 [(0, .ref (a 0 0)), (1, .ref (bg 0)), (3, .ref (bc 0)), (7, .int x7), (8, .int x8), (9, .int x9)]), W p L e ({ frames := 6, cells := 1, slots := 25, locals := 142 } : Room) s m args below meth c H locs 0 0 (MQ below (va_Qi (fun r (u : (Nat → Nat → Nat → Nat) × cr_V × cr_V × cr_V × cr_XT) => (r, u.2) = out) (fun u t => cr_at D A ((fun u : (Nat → Nat → Nat → Nat) × cr_V × cr_V × cr_V × cr_XT => cr_wN ct 17 bg u.2.1 ++ (cr_wN ct 52 bl u.2.2.1 ++ (cr_wN ct 12 bc u.2.2.2.1 ++ cr_wXt ct a u.1 u.2.2.2.2))) u) t) A) args s 1 25 A) (F0 m 679 ls [])), ∀ (wg : cr_V) (wl : cr_V) (wc : cr_V) (vX : cr_XT) (x7 : Int32) (x8 : Int32) (x9 : Int32) (hE : f_L_acts_709 k679_ wg wl wc vX x7 x8 x9 = some out) (r : Nat → Nat → Nat → Nat) (H : Heap) (locs : List Loc) (ls : Array Slot) (hW : cr_wd D A s (cr_wN ct 17 bg wg ++ (cr_wN ct 52 bl wl ++ (cr_wN ct 12 bc wc ++ cr_wXt ct a r vX))) H locs) (hl : lv_has ls 12 [(0, .ref (a 0 0)), (1, .ref (bg 0)), (3, .ref (bc 0)), (7, .int x7), (8, .int x8), (9, .int x9)]), W p L e ({ frames := 6, cells := 1, slots := 25, locals := 142 } : Room) s m args below meth c H locs 0 0 (MQ below (va_Qi (fun r (u : (Nat → Nat → Nat → Nat) × cr_V × cr_V × cr_V × cr_XT) => (r, u.2) = out) (fun u t => cr_at D A ((fun u : (Nat → Nat → Nat → Nat) × cr_V × cr_V × cr_V × cr_XT => cr_wN ct 17 bg u.2.1 ++ (cr_wN ct 52 bl u.2.2.1 ++ (cr_wN ct 12 bc u.2.2.2.1 ++ cr_wXt ct a u.1 u.2.2.2.2))) u) t) A) args s 1 25 A) (F0 m 709 ls []) := by
    intro k679_ ih679_ wg wl wc vX x7 x8 x9 hE r H locs ls hW hl
    replace hE : (k679_ wg wl wc vX x7 x8 (x9 + (-1))) = some out := hE
    refine lv_iinc (v := x9 + (-1)) (lv' := [(9, .int (x9 + (-1))), (0, .ref (a 0 0)), (1, .ref (bg 0)), (3, .ref (bc 0)), (7, .int x7), (8, .int x8)]) hx hb dL_acts_709 hl (k := 5) rfl (by first | rfl | decide) (by decide) rfl (fun ls hl => ?_)
    refine lv_goto (tgt := 679) hx hb dL_acts_712 (by decide) ?_
    exact ih679_ wg wl wc vX x7 x8 (x9 + (-1)) hE _ _ _ _ hW (lv_sub hl [1, 2, 3, 4, 5, 0] rfl)
  have n679 :  ∀ (n : Nat), ∀ (wg : cr_V) (wl : cr_V) (wc : cr_V) (vX : cr_XT) (x7 : Int32) (x8 : Int32) (x9 : Int32) (hE : f_L_acts_679  n wg wl wc vX x7 x8 x9 = some out) (r : Nat → Nat → Nat → Nat) (H : Heap) (locs : List Loc) (ls : Array Slot) (hW : cr_wd D A s (cr_wN ct 17 bg wg ++ (cr_wN ct 52 bl wl ++ (cr_wN ct 12 bc wc ++ cr_wXt ct a r vX))) H locs) (hl : lv_has ls 12 [(0, .ref (a 0 0)), (1, .ref (bg 0)), (3, .ref (bc 0)), (7, .int x7), (8, .int x8), (9, .int x9)]), W p L e ({ frames := 6, cells := 1, slots := 25, locals := 142 } : Room) s m args below meth c H locs 0 0 (MQ below (va_Qi (fun r (u : (Nat → Nat → Nat → Nat) × cr_V × cr_V × cr_V × cr_XT) => (r, u.2) = out) (fun u t => cr_at D A ((fun u : (Nat → Nat → Nat → Nat) × cr_V × cr_V × cr_V × cr_XT => cr_wN ct 17 bg u.2.1 ++ (cr_wN ct 52 bl u.2.2.1 ++ (cr_wN ct 12 bc u.2.2.2.1 ++ cr_wXt ct a u.1 u.2.2.2.2))) u) t) A) args s 1 25 A) (F0 m 679 ls []) := by
    intro  n
    induction n with
    | zero =>
      intro wg wl wc vX x7 x8 x9 hE
      cases hE
    | succ n ih =>
      intro wg wl wc vX x7 x8 x9 hE r H locs ls hW hl
      replace hE : (if x9 < 0 then ((f_X6_pass vX.1 vX.2.1 vX.2.2.1 vX.2.2.2.1 vX.2.2.2.2.1 vX.2.2.2.2.2.1 vX.2.2.2.2.2.2.1 vX.2.2.2.2.2.2.2.1 vX.2.2.2.2.2.2.2.2.1 vX.2.2.2.2.2.2.2.2.2 x7).bind fun q33 => if q33.1 = x8 then (some (1, cr_a (cr_a (cr_a wg 0 0 ((wg 0 0) + x7)) 0 1 (((cr_a wg 0 0 ((wg 0 0) + x7)) 0 1) - ((x8 * ((cr_a wg 0 0 ((wg 0 0) + x7)) 0 8)) * ((cr_a wg 0 0 ((wg 0 0) + x7)) 0 12)))) 0 3 (((cr_a (cr_a wg 0 0 ((wg 0 0) + x7)) 0 1 (((cr_a wg 0 0 ((wg 0 0) + x7)) 0 1) - ((x8 * ((cr_a wg 0 0 ((wg 0 0) + x7)) 0 8)) * ((cr_a wg 0 0 ((wg 0 0) + x7)) 0 12)))) 0 3) + x8), wl, wc, (cl_uX q33.2 vX))) else (some (0, cr_a (cr_a (cr_a wg 0 0 ((wg 0 0) + x7)) 0 1 (((cr_a wg 0 0 ((wg 0 0) + x7)) 0 1) - ((x8 * ((cr_a wg 0 0 ((wg 0 0) + x7)) 0 8)) * ((cr_a wg 0 0 ((wg 0 0) + x7)) 0 12)))) 0 3 (((cr_a (cr_a wg 0 0 ((wg 0 0) + x7)) 0 1 (((cr_a wg 0 0 ((wg 0 0) + x7)) 0 1) - ((x8 * ((cr_a wg 0 0 ((wg 0 0) + x7)) 0 8)) * ((cr_a wg 0 0 ((wg 0 0) + x7)) 0 12)))) 0 3) + x8), wl, wc, (cl_uX q33.2 vX)))) else (if cr_in (2 * x9) 12 = true then if ((wg 0 0) + x7) ≤ (wc 0 (cr_x (2 * x9))) then (f_L_acts_709 (f_L_acts_679 n) wg wl wc vX x7 x8 x9) else ((f_L_close wg wc x9).bind fun q37 => f_L_acts_709 (f_L_acts_679 n) q37.1 wl q37.2 vX x7 (x8 + 1) x9) else none)) = some out := hE
      refine lv_iload hx hb dL_acts_679 (lv_at hl 5 rfl) ?_
      refine lv_if_lt (tgt := 715) hx hb dL_acts_681 (by decide) (fun c32 => ?_) (fun c32 => ?_)
      · rw [if_pos c32] at hE
        refine lv_aload_n hx hb dL_acts_715 rfl (lv_at hl 1 rfl) ?_
        refine lv_iconst (v := 0) hx hb dL_acts_716 (by decide) ?_
        refine lv_dup2_11 hx hb dL_acts_717 rfl rfl ?_
        refine cr_ald C hW.1 0 (f := wg 0) (k := 0) rfl (by decide) (by decide) dL_acts_718 ?_
        refine lv_iload hx hb dL_acts_719 (lv_at hl 3 rfl) ?_
        refine lv_iadd hx hb dL_acts_721 ?_
        refine cr_ast C hW 0 rfl (k := 0) (by decide) (by decide) (w' := cr_wN ct 17 bg (cr_a wg 0 0 ((wg 0 0) + x7)) ++ (cr_wN ct 52 bl wl ++ (cr_wN ct 12 bc wc ++ cr_wXt ct a r vX))) rfl dL_acts_722 (fun H locs hW => ?_)
        refine lv_aload_n hx hb dL_acts_723 rfl (lv_at hl 1 rfl) ?_
        refine lv_iconst (v := 1) hx hb dL_acts_724 (by decide) ?_
        refine lv_dup2_11 hx hb dL_acts_725 rfl rfl ?_
        refine cr_ald C hW.1 0 (f := (cr_a wg 0 0 ((wg 0 0) + x7)) 0) (k := 1) rfl (by decide) (by decide) dL_acts_726 ?_
        refine lv_iload hx hb dL_acts_727 (lv_at hl 4 rfl) ?_
        refine lv_aload_n hx hb dL_acts_729 rfl (lv_at hl 1 rfl) ?_
        refine lv_bipush (v := 8) hx hb dL_acts_730 (by decide) ?_
        refine cr_ald C hW.1 0 (f := (cr_a wg 0 0 ((wg 0 0) + x7)) 0) (k := 8) rfl (by decide) (by decide) dL_acts_732 ?_
        refine lv_imul hx hb dL_acts_733 ?_
        refine lv_aload_n hx hb dL_acts_734 rfl (lv_at hl 1 rfl) ?_
        refine lv_bipush (v := 12) hx hb dL_acts_735 (by decide) ?_
        refine cr_ald C hW.1 0 (f := (cr_a wg 0 0 ((wg 0 0) + x7)) 0) (k := 12) rfl (by decide) (by decide) dL_acts_737 ?_
        refine lv_imul hx hb dL_acts_738 ?_
        refine lv_isub hx hb dL_acts_739 ?_
        refine cr_ast C hW 0 rfl (k := 1) (by decide) (by decide) (w' := cr_wN ct 17 bg (cr_a (cr_a wg 0 0 ((wg 0 0) + x7)) 0 1 (((cr_a wg 0 0 ((wg 0 0) + x7)) 0 1) - ((x8 * ((cr_a wg 0 0 ((wg 0 0) + x7)) 0 8)) * ((cr_a wg 0 0 ((wg 0 0) + x7)) 0 12)))) ++ (cr_wN ct 52 bl wl ++ (cr_wN ct 12 bc wc ++ cr_wXt ct a r vX))) rfl dL_acts_740 (fun H locs hW => ?_)
        refine lv_aload_n hx hb dL_acts_741 rfl (lv_at hl 1 rfl) ?_
        refine lv_iconst (v := 3) hx hb dL_acts_742 (by decide) ?_
        refine lv_dup2_11 hx hb dL_acts_743 rfl rfl ?_
        refine cr_ald C hW.1 0 (f := (cr_a (cr_a wg 0 0 ((wg 0 0) + x7)) 0 1 (((cr_a wg 0 0 ((wg 0 0) + x7)) 0 1) - ((x8 * ((cr_a wg 0 0 ((wg 0 0) + x7)) 0 8)) * ((cr_a wg 0 0 ((wg 0 0) + x7)) 0 12)))) 0) (k := 3) rfl (by decide) (by decide) dL_acts_744 ?_
        refine lv_iload hx hb dL_acts_745 (lv_at hl 4 rfl) ?_
        refine lv_iadd hx hb dL_acts_747 ?_
        refine cr_ast C hW 0 rfl (k := 3) (by decide) (by decide) (w' := cr_wN ct 17 bg (cr_a (cr_a (cr_a wg 0 0 ((wg 0 0) + x7)) 0 1 (((cr_a wg 0 0 ((wg 0 0) + x7)) 0 1) - ((x8 * ((cr_a wg 0 0 ((wg 0 0) + x7)) 0 8)) * ((cr_a wg 0 0 ((wg 0 0) + x7)) 0 12)))) 0 3 (((cr_a (cr_a wg 0 0 ((wg 0 0) + x7)) 0 1 (((cr_a wg 0 0 ((wg 0 0) + x7)) 0 1) - ((x8 * ((cr_a wg 0 0 ((wg 0 0) + x7)) 0 8)) * ((cr_a wg 0 0 ((wg 0 0) + x7)) 0 12)))) 0 3) + x8)) ++ (cr_wN ct 52 bl wl ++ (cr_wN ct 12 bc wc ++ cr_wXt ct a r vX))) rfl dL_acts_748 (fun H locs hW => ?_)
        refine lv_aload_n hx hb dL_acts_749 rfl (lv_at hl 0 rfl) ?_
        refine lv_iload hx hb dL_acts_750 (lv_at hl 3 rfl) ?_
        obtain ⟨q33, hq33, hE⟩ := cr_bind hE
        refine cl_vWBr (nb := 4) (n := 1) (As := [.int x7]) (rest := []) C hW (m_X6_pass L D ct a r vX.1 vX.2.1 vX.2.2.1 vX.2.2.2.1 vX.2.2.2.2.1 vX.2.2.2.2.2.1 vX.2.2.2.2.2.2.1 vX.2.2.2.2.2.2.2.1 vX.2.2.2.2.2.2.2.2.1 vX.2.2.2.2.2.2.2.2.2 x7 _ q33 hq33) (cwV 1 hts gL_acts_X6_pass rfl rfl rfl (by decide +kernel) ⟨Nat.le_of_ble_eq_true rfl, Nat.le_of_ble_eq_true rfl⟩) [3] [0, 1, 2] [cr_wN ct 17 bg (cr_a (cr_a (cr_a wg 0 0 ((wg 0 0) + x7)) 0 1 (((cr_a wg 0 0 ((wg 0 0) + x7)) 0 1) - ((x8 * ((cr_a wg 0 0 ((wg 0 0) + x7)) 0 8)) * ((cr_a wg 0 0 ((wg 0 0) + x7)) 0 12)))) 0 3 (((cr_a (cr_a wg 0 0 ((wg 0 0) + x7)) 0 1 (((cr_a wg 0 0 ((wg 0 0) + x7)) 0 1) - ((x8 * ((cr_a wg 0 0 ((wg 0 0) + x7)) 0 8)) * ((cr_a wg 0 0 ((wg 0 0) + x7)) 0 12)))) 0 3) + x8)), cr_wN ct 52 bl wl, cr_wN ct 12 bc wc, cr_wXt ct a r vX] (fun r => cr_wN ct 17 bg (cr_a (cr_a (cr_a wg 0 0 ((wg 0 0) + x7)) 0 1 (((cr_a wg 0 0 ((wg 0 0) + x7)) 0 1) - ((x8 * ((cr_a wg 0 0 ((wg 0 0) + x7)) 0 8)) * ((cr_a wg 0 0 ((wg 0 0) + x7)) 0 12)))) 0 3 (((cr_a (cr_a wg 0 0 ((wg 0 0) + x7)) 0 1 (((cr_a wg 0 0 ((wg 0 0) + x7)) 0 1) - ((x8 * ((cr_a wg 0 0 ((wg 0 0) + x7)) 0 8)) * ((cr_a wg 0 0 ((wg 0 0) + x7)) 0 12)))) 0 3) + x8)) ++ (cr_wN ct 52 bl wl ++ (cr_wN ct 12 bc wc ++ cr_wXt ct a r (cl_uX q33.2 vX)))) (fun r => [cr_wN ct 17 bg (cr_a (cr_a (cr_a wg 0 0 ((wg 0 0) + x7)) 0 1 (((cr_a wg 0 0 ((wg 0 0) + x7)) 0 1) - ((x8 * ((cr_a wg 0 0 ((wg 0 0) + x7)) 0 8)) * ((cr_a wg 0 0 ((wg 0 0) + x7)) 0 12)))) 0 3 (((cr_a (cr_a wg 0 0 ((wg 0 0) + x7)) 0 1 (((cr_a wg 0 0 ((wg 0 0) + x7)) 0 1) - ((x8 * ((cr_a wg 0 0 ((wg 0 0) + x7)) 0 8)) * ((cr_a wg 0 0 ((wg 0 0) + x7)) 0 12)))) 0 3) + x8)), cr_wN ct 52 bl wl, cr_wN ct 12 bc wc, cr_wXt ct a r (cl_uX q33.2 vX)]) ⟨rfl, rfl⟩ (fun _ => ⟨rfl, rfl⟩) rfl (fun _ => rfl) (fun _ => rfl) (by decide) 3 rfl rfl rfl hl.1 rfl (Nat.le_of_ble_eq_true rfl) dL_acts_752 ⟨Nat.le_of_ble_eq_true rfl, Nat.le_of_ble_eq_true rfl⟩ (fun r H locs hW => ?_)
        refine lv_iload hx hb dL_acts_755 (lv_at hl 4 rfl) ?_
        refine lv_icmp_ne (tgt := 764) hx hb dL_acts_757 (by decide) (fun c34 => ?_) (fun c34 => ?_)
        · rw [if_neg c34] at hE
          refine lv_iconst (v := 0) hx hb dL_acts_764 (by decide) ?_
          refine W.widen (k := 1) (n := 25) (Nat.le_of_ble_eq_true rfl) (Nat.le_of_ble_eq_true rfl) ?_
          exact cr_retWz C (w := (fun u : (Nat → Nat → Nat → Nat) × cr_V × cr_V × cr_V × cr_XT => cr_wN ct 17 bg u.2.1 ++ (cr_wN ct 52 bl u.2.2.1 ++ (cr_wN ct 12 bc u.2.2.2.1 ++ cr_wXt ct a u.1 u.2.2.2.2)))) (r, cr_a (cr_a (cr_a wg 0 0 ((wg 0 0) + x7)) 0 1 (((cr_a wg 0 0 ((wg 0 0) + x7)) 0 1) - ((x8 * ((cr_a wg 0 0 ((wg 0 0) + x7)) 0 8)) * ((cr_a wg 0 0 ((wg 0 0) + x7)) 0 12)))) 0 3 (((cr_a (cr_a wg 0 0 ((wg 0 0) + x7)) 0 1 (((cr_a wg 0 0 ((wg 0 0) + x7)) 0 1) - ((x8 * ((cr_a wg 0 0 ((wg 0 0) + x7)) 0 8)) * ((cr_a wg 0 0 ((wg 0 0) + x7)) 0 12)))) 0 3) + x8), wl, wc, (cl_uX q33.2 vX)) hW rfl (Option.some.inj hE) dL_acts_765
        · rw [if_pos c34] at hE
          refine lv_iconst (v := 1) hx hb dL_acts_760 (by decide) ?_
          refine lv_goto (tgt := 765) hx hb dL_acts_761 (by decide) ?_
          refine W.widen (k := 1) (n := 25) (Nat.le_of_ble_eq_true rfl) (Nat.le_of_ble_eq_true rfl) ?_
          exact cr_retWz C (w := (fun u : (Nat → Nat → Nat → Nat) × cr_V × cr_V × cr_V × cr_XT => cr_wN ct 17 bg u.2.1 ++ (cr_wN ct 52 bl u.2.2.1 ++ (cr_wN ct 12 bc u.2.2.2.1 ++ cr_wXt ct a u.1 u.2.2.2.2)))) (r, cr_a (cr_a (cr_a wg 0 0 ((wg 0 0) + x7)) 0 1 (((cr_a wg 0 0 ((wg 0 0) + x7)) 0 1) - ((x8 * ((cr_a wg 0 0 ((wg 0 0) + x7)) 0 8)) * ((cr_a wg 0 0 ((wg 0 0) + x7)) 0 12)))) 0 3 (((cr_a (cr_a wg 0 0 ((wg 0 0) + x7)) 0 1 (((cr_a wg 0 0 ((wg 0 0) + x7)) 0 1) - ((x8 * ((cr_a wg 0 0 ((wg 0 0) + x7)) 0 8)) * ((cr_a wg 0 0 ((wg 0 0) + x7)) 0 12)))) 0 3) + x8), wl, wc, (cl_uX q33.2 vX)) hW rfl (Option.some.inj hE) dL_acts_765
      · rw [if_neg c32] at hE
        refine lv_aload_n hx hb dL_acts_684 rfl (lv_at hl 2 rfl) ?_
        refine lv_iconst (v := 2) hx hb dL_acts_685 (by decide) ?_
        refine lv_iload hx hb dL_acts_686 (lv_at hl 5 rfl) ?_
        refine lv_imul hx hb dL_acts_688 ?_
        obtain ⟨i35, hE⟩ := cr_ifn hE
        refine cr_ald C hW.1 2 (f := wc 0) (k := cr_x (2 * x9)) rfl i35 (cr_xe _) dL_acts_689 ?_
        refine lv_aload_n hx hb dL_acts_690 rfl (lv_at hl 1 rfl) ?_
        refine lv_iconst (v := 0) hx hb dL_acts_691 (by decide) ?_
        refine cr_ald C hW.1 0 (f := wg 0) (k := 0) rfl (by decide) (by decide) dL_acts_692 ?_
        refine lv_iload hx hb dL_acts_693 (lv_at hl 3 rfl) ?_
        refine lv_iadd hx hb dL_acts_695 ?_
        refine lv_icmp_ge (tgt := 709) hx hb dL_acts_696 (by decide) (fun c36 => ?_) (fun c36 => ?_)
        · rw [if_pos c36] at hE
          exact n709 (f_L_acts_679 n) ih wg wl wc vX x7 x8 x9 hE _ _ _ _ hW (lv_sub hl [0, 1, 2, 3, 4, 5] rfl)
        · rw [if_neg c36] at hE
          refine lv_aload_n hx hb dL_acts_699 rfl (lv_at hl 1 rfl) ?_
          refine lv_aload_n hx hb dL_acts_700 rfl (lv_at hl 2 rfl) ?_
          refine lv_iload hx hb dL_acts_701 (lv_at hl 5 rfl) ?_
          obtain ⟨q37, hq37, hE⟩ := cr_bind hE
          refine cl_sVB (nb := 4) (n := 3) (As := [.ref (bg 0), .ref (bc 0), .int x9]) (rest := []) C hW (m_L_close L D ct bg bc wg wc x9 _ q37 hq37) (va_cwS 3 hts gL_acts_L_close rfl rfl rfl (by decide +kernel) ⟨Nat.le_of_ble_eq_true rfl, Nat.le_of_ble_eq_true rfl⟩) [0, 2] [1, 3] [cr_wN ct 17 bg wg, cr_wN ct 52 bl wl, cr_wN ct 12 bc wc, cr_wXt ct a r vX] (cr_wN ct 17 bg q37.1 ++ (cr_wN ct 52 bl wl ++ (cr_wN ct 12 bc q37.2 ++ cr_wXt ct a r vX))) [cr_wN ct 17 bg q37.1, cr_wN ct 52 bl wl, cr_wN ct 12 bc q37.2, cr_wXt ct a r vX] ⟨rfl, rfl⟩ ⟨rfl, rfl⟩ rfl rfl rfl (by decide) rfl hl.1 rfl (Nat.le_of_ble_eq_true rfl) dL_acts_703 ⟨Nat.le_of_ble_eq_true rfl, Nat.le_of_ble_eq_true rfl⟩ (fun H locs hW => ?_)
          refine lv_iinc (v := x8 + 1) (lv' := [(8, .int (x8 + 1)), (0, .ref (a 0 0)), (1, .ref (bg 0)), (3, .ref (bc 0)), (7, .int x7), (9, .int x9)]) hx hb dL_acts_706 hl (k := 4) rfl (by first | rfl | decide) (by decide) rfl (fun ls hl => ?_)
          exact n709 (f_L_acts_679 n) ih q37.1 wl q37.2 vX x7 (x8 + 1) x9 hE _ _ _ _ hW (lv_sub hl [1, 2, 3, 4, 0, 5] rfl)
  have n635 :  ∀ (wg : cr_V) (wl : cr_V) (wc : cr_V) (vX : cr_XT) (s0 : Int32) (s1 : Int32) (s2 : Int32) (hE : f_L_acts_635  wg wl wc vX s0 s1 s2 = some out) (r : Nat → Nat → Nat → Nat) (H : Heap) (locs : List Loc) (ls : Array Slot) (hW : cr_wd D A s (cr_wN ct 17 bg wg ++ (cr_wN ct 52 bl wl ++ (cr_wN ct 12 bc wc ++ cr_wXt ct a r vX))) H locs) (hl : lv_has ls 12 [(0, .ref (a 0 0)), (1, .ref (bg 0)), (3, .ref (bc 0))]), W p L e ({ frames := 6, cells := 1, slots := 25, locals := 142 } : Room) s m args below meth c H locs 0 0 (MQ below (va_Qi (fun r (u : (Nat → Nat → Nat → Nat) × cr_V × cr_V × cr_V × cr_XT) => (r, u.2) = out) (fun u t => cr_at D A ((fun u : (Nat → Nat → Nat → Nat) × cr_V × cr_V × cr_V × cr_XT => cr_wN ct 17 bg u.2.1 ++ (cr_wN ct 52 bl u.2.2.1 ++ (cr_wN ct 12 bc u.2.2.2.1 ++ cr_wXt ct a u.1 u.2.2.2.2))) u) t) A) args s 1 25 A) (F0 m 635 ls [.int s0, .int s1, .int s2]) := by
    intro  wg wl wc vX s0 s1 s2 hE r H locs ls hW hl
    replace hE : (if s0 = 0 then none else if ((wg 0 0) + (s2 + (s1 - s1 / s0 * s0))) ≤ 999 then (f_L_acts_679 10100 wg wl wc vX (s2 + (s1 - s1 / s0 * s0)) 0 ((wg 0 7) - 1)) else ((f_X6_pass vX.1 vX.2.1 vX.2.2.1 vX.2.2.2.1 vX.2.2.2.2.1 vX.2.2.2.2.2.1 vX.2.2.2.2.2.2.1 vX.2.2.2.2.2.2.2.1 vX.2.2.2.2.2.2.2.2.1 vX.2.2.2.2.2.2.2.2.2 (s2 + (s1 - s1 / s0 * s0))).bind fun q40 => if q40.1 = (-2000000003) then (some (1, wg, wl, wc, (cl_uX q40.2 vX))) else (some (0, wg, wl, wc, (cl_uX q40.2 vX))))) = some out := hE
    obtain ⟨z38, hE⟩ := cr_ifz hE
    refine lv_irem hx hb dL_acts_635 z38 ?_
    refine lv_iadd hx hb dL_acts_636 ?_
    refine lv_istore (lv' := [(7, .int (s2 + (s1 - s1 / s0 * s0))), (0, .ref (a 0 0)), (1, .ref (bg 0)), (3, .ref (bc 0))]) hx hb dL_acts_637 hl (by decide) rfl (fun ls hl => ?_)
    refine lv_aload_n hx hb dL_acts_639 rfl (lv_at hl 2 rfl) ?_
    refine lv_iconst (v := 0) hx hb dL_acts_640 (by decide) ?_
    refine cr_ald C hW.1 0 (f := wg 0) (k := 0) rfl (by decide) (by decide) dL_acts_641 ?_
    refine lv_iload hx hb dL_acts_642 (lv_at hl 0 rfl) ?_
    refine lv_iadd hx hb dL_acts_644 ?_
    refine lv_sipush (v := 999) hx hb dL_acts_645 (by decide) ?_
    refine lv_icmp_le (tgt := 668) hx hb dL_acts_648 (by decide) (fun c39 => ?_) (fun c39 => ?_)
    · rw [if_pos c39] at hE
      refine lv_iconst (v := 0) hx hb dL_acts_668 (by decide) ?_
      refine lv_istore (lv' := [(8, .int 0), (7, .int (s2 + (s1 - s1 / s0 * s0))), (0, .ref (a 0 0)), (1, .ref (bg 0)), (3, .ref (bc 0))]) hx hb dL_acts_669 hl (by decide) rfl (fun ls hl => ?_)
      refine lv_aload_n hx hb dL_acts_671 rfl (lv_at hl 3 rfl) ?_
      refine lv_bipush (v := 7) hx hb dL_acts_672 (by decide) ?_
      refine cr_ald C hW.1 0 (f := wg 0) (k := 7) rfl (by decide) (by decide) dL_acts_674 ?_
      refine lv_iconst (v := 1) hx hb dL_acts_675 (by decide) ?_
      refine lv_isub hx hb dL_acts_676 ?_
      refine lv_istore (lv' := [(9, .int ((wg 0 7) - 1)), (8, .int 0), (7, .int (s2 + (s1 - s1 / s0 * s0))), (0, .ref (a 0 0)), (1, .ref (bg 0)), (3, .ref (bc 0))]) hx hb dL_acts_677 hl (by decide) rfl (fun ls hl => ?_)
      exact n679 10100 wg wl wc vX (s2 + (s1 - s1 / s0 * s0)) 0 ((wg 0 7) - 1) hE _ _ _ _ hW (lv_sub hl [3, 4, 5, 2, 1, 0] rfl)
    · rw [if_neg c39] at hE
      refine lv_aload_n hx hb dL_acts_651 rfl (lv_at hl 1 rfl) ?_
      refine lv_iload hx hb dL_acts_652 (lv_at hl 0 rfl) ?_
      obtain ⟨q40, hq40, hE⟩ := cr_bind hE
      refine cl_vWBr (nb := 4) (n := 1) (As := [.int (s2 + (s1 - s1 / s0 * s0))]) (rest := []) C hW (m_X6_pass L D ct a r vX.1 vX.2.1 vX.2.2.1 vX.2.2.2.1 vX.2.2.2.2.1 vX.2.2.2.2.2.1 vX.2.2.2.2.2.2.1 vX.2.2.2.2.2.2.2.1 vX.2.2.2.2.2.2.2.2.1 vX.2.2.2.2.2.2.2.2.2 (s2 + (s1 - s1 / s0 * s0)) _ q40 hq40) (cwV 1 hts gL_acts_X6_pass rfl rfl rfl (by decide +kernel) ⟨Nat.le_of_ble_eq_true rfl, Nat.le_of_ble_eq_true rfl⟩) [3] [0, 1, 2] [cr_wN ct 17 bg wg, cr_wN ct 52 bl wl, cr_wN ct 12 bc wc, cr_wXt ct a r vX] (fun r => cr_wN ct 17 bg wg ++ (cr_wN ct 52 bl wl ++ (cr_wN ct 12 bc wc ++ cr_wXt ct a r (cl_uX q40.2 vX)))) (fun r => [cr_wN ct 17 bg wg, cr_wN ct 52 bl wl, cr_wN ct 12 bc wc, cr_wXt ct a r (cl_uX q40.2 vX)]) ⟨rfl, rfl⟩ (fun _ => ⟨rfl, rfl⟩) rfl (fun _ => rfl) (fun _ => rfl) (by decide) 3 rfl rfl rfl hl.1 rfl (Nat.le_of_ble_eq_true rfl) dL_acts_654 ⟨Nat.le_of_ble_eq_true rfl, Nat.le_of_ble_eq_true rfl⟩ (fun r H locs hW => ?_)
      refine cr_ldc C k1 dL_acts_657 ?_
      refine lv_icmp_ne (tgt := 666) hx hb dL_acts_659 (by decide) (fun c41 => ?_) (fun c41 => ?_)
      · rw [if_neg c41] at hE
        refine lv_iconst (v := 0) hx hb dL_acts_666 (by decide) ?_
        refine W.widen (k := 1) (n := 25) (Nat.le_of_ble_eq_true rfl) (Nat.le_of_ble_eq_true rfl) ?_
        exact cr_retWz C (w := (fun u : (Nat → Nat → Nat → Nat) × cr_V × cr_V × cr_V × cr_XT => cr_wN ct 17 bg u.2.1 ++ (cr_wN ct 52 bl u.2.2.1 ++ (cr_wN ct 12 bc u.2.2.2.1 ++ cr_wXt ct a u.1 u.2.2.2.2)))) (r, wg, wl, wc, (cl_uX q40.2 vX)) hW rfl (Option.some.inj hE) dL_acts_667
      · rw [if_pos c41] at hE
        refine lv_iconst (v := 1) hx hb dL_acts_662 (by decide) ?_
        refine lv_goto (tgt := 667) hx hb dL_acts_663 (by decide) ?_
        refine W.widen (k := 1) (n := 25) (Nat.le_of_ble_eq_true rfl) (Nat.le_of_ble_eq_true rfl) ?_
        exact cr_retWz C (w := (fun u : (Nat → Nat → Nat → Nat) × cr_V × cr_V × cr_V × cr_XT => cr_wN ct 17 bg u.2.1 ++ (cr_wN ct 52 bl u.2.2.1 ++ (cr_wN ct 12 bc u.2.2.2.1 ++ cr_wXt ct a u.1 u.2.2.2.2)))) (r, wg, wl, wc, (cl_uX q40.2 vX)) hW rfl (Option.some.inj hE) dL_acts_667
  have n928 :  ∀ (wg : cr_V) (wl : cr_V) (wc : cr_V) (vX : cr_XT) (x7 : Int32) (x8 : Int32) (hE : f_L_acts_928  wg wl wc vX x7 x8 = some out) (r : Nat → Nat → Nat → Nat) (H : Heap) (locs : List Loc) (ls : Array Slot) (hW : cr_wd D A s (cr_wN ct 17 bg wg ++ (cr_wN ct 52 bl wl ++ (cr_wN ct 12 bc wc ++ cr_wXt ct a r vX))) H locs) (hl : lv_has ls 12 [(0, .ref (a 0 0)), (1, .ref (bg 0)), (7, .int x7), (8, .int x8)]), W p L e ({ frames := 6, cells := 1, slots := 25, locals := 142 } : Room) s m args below meth c H locs 0 0 (MQ below (va_Qi (fun r (u : (Nat → Nat → Nat → Nat) × cr_V × cr_V × cr_V × cr_XT) => (r, u.2) = out) (fun u t => cr_at D A ((fun u : (Nat → Nat → Nat → Nat) × cr_V × cr_V × cr_V × cr_XT => cr_wN ct 17 bg u.2.1 ++ (cr_wN ct 52 bl u.2.2.1 ++ (cr_wN ct 12 bc u.2.2.2.1 ++ cr_wXt ct a u.1 u.2.2.2.2))) u) t) A) args s 1 25 A) (F0 m 928 ls []) := by
    intro  wg wl wc vX x7 x8 hE r H locs ls hW hl
    replace hE : (if cr_in (8 + x7) 17 = true then (f_X6_set vX.1 vX.2.1 vX.2.2.1 vX.2.2.2.1 vX.2.2.2.2.1 vX.2.2.2.2.2.1 vX.2.2.2.2.2.2.1 vX.2.2.2.2.2.2.2.1 vX.2.2.2.2.2.2.2.2.1 vX.2.2.2.2.2.2.2.2.2 x7 x8).bind fun q43 => if q43.1 = (wg 0 (cr_x (8 + x7))) then (some (1, cr_a wg 0 (cr_x (8 + x7)) x8, wl, wc, (cl_uX q43.2 vX))) else (some (0, cr_a wg 0 (cr_x (8 + x7)) x8, wl, wc, (cl_uX q43.2 vX))) else none) = some out := hE
    refine lv_aload_n hx hb dL_acts_928 rfl (lv_at hl 1 rfl) ?_
    refine lv_bipush (v := 8) hx hb dL_acts_929 (by decide) ?_
    refine lv_iload hx hb dL_acts_931 (lv_at hl 2 rfl) ?_
    refine lv_iadd hx hb dL_acts_933 ?_
    obtain ⟨i42, hE⟩ := cr_ifn hE
    refine cr_ald C hW.1 0 (f := wg 0) (k := cr_x (8 + x7)) rfl i42 (cr_xe _) dL_acts_934 ?_
    refine lv_istore (lv' := [(9, .int (wg 0 (cr_x (8 + x7)))), (0, .ref (a 0 0)), (1, .ref (bg 0)), (7, .int x7), (8, .int x8)]) hx hb dL_acts_935 hl (by decide) rfl (fun ls hl => ?_)
    refine lv_aload_n hx hb dL_acts_937 rfl (lv_at hl 2 rfl) ?_
    refine lv_bipush (v := 8) hx hb dL_acts_938 (by decide) ?_
    refine lv_iload hx hb dL_acts_940 (lv_at hl 3 rfl) ?_
    refine lv_iadd hx hb dL_acts_942 ?_
    refine lv_iload hx hb dL_acts_943 (lv_at hl 4 rfl) ?_
    refine cr_ast C hW 0 rfl (k := (cr_x (8 + x7))) i42 (cr_xe _) (w' := cr_wN ct 17 bg (cr_a wg 0 (cr_x (8 + x7)) x8) ++ (cr_wN ct 52 bl wl ++ (cr_wN ct 12 bc wc ++ cr_wXt ct a r vX))) rfl dL_acts_945 (fun H locs hW => ?_)
    refine lv_aload_n hx hb dL_acts_946 rfl (lv_at hl 1 rfl) ?_
    refine lv_iload hx hb dL_acts_947 (lv_at hl 3 rfl) ?_
    refine lv_iload hx hb dL_acts_949 (lv_at hl 4 rfl) ?_
    obtain ⟨q43, hq43, hE⟩ := cr_bind hE
    refine cl_vSBr (nb := 4) (n := 2) (As := [.int x7, .int x8]) (rest := []) hNF hST C hW (m_X6_set L D ct a r vX.1 vX.2.1 vX.2.2.1 vX.2.2.2.1 vX.2.2.2.2.1 vX.2.2.2.2.2.1 vX.2.2.2.2.2.2.1 vX.2.2.2.2.2.2.2.1 vX.2.2.2.2.2.2.2.2.1 vX.2.2.2.2.2.2.2.2.2 x7 x8 _ q43 hq43) (cwV 2 hts gL_acts_X6_set rfl rfl rfl (by decide +kernel) ⟨Nat.le_of_ble_eq_true rfl, Nat.le_of_ble_eq_true rfl⟩) [3] [0, 1, 2] [cr_wN ct 17 bg (cr_a wg 0 (cr_x (8 + x7)) x8), cr_wN ct 52 bl wl, cr_wN ct 12 bc wc, cr_wXt ct a r vX] (fun r => cr_wN ct 17 bg (cr_a wg 0 (cr_x (8 + x7)) x8) ++ (cr_wN ct 52 bl wl ++ (cr_wN ct 12 bc wc ++ cr_wXt ct a r (cl_uX q43.2 vX)))) (fun r => [cr_wN ct 17 bg (cr_a wg 0 (cr_x (8 + x7)) x8), cr_wN ct 52 bl wl, cr_wN ct 12 bc wc, cr_wXt ct a r (cl_uX q43.2 vX)]) ⟨rfl, rfl⟩ (fun _ => ⟨rfl, rfl⟩) rfl (fun _ => rfl) (fun _ => rfl) (by decide) 3 rfl rfl rfl hl.1 rfl (Nat.le_of_ble_eq_true rfl) dL_acts_951 ⟨Nat.le_of_ble_eq_true rfl, Nat.le_of_ble_eq_true rfl⟩ (fun r H locs hW => ?_)
    refine lv_iload hx hb dL_acts_954 (lv_at hl 0 rfl) ?_
    refine lv_icmp_ne (tgt := 963) hx hb dL_acts_956 (by decide) (fun c44 => ?_) (fun c44 => ?_)
    · rw [if_neg c44] at hE
      refine lv_iconst (v := 0) hx hb dL_acts_963 (by decide) ?_
      refine W.widen (k := 1) (n := 25) (Nat.le_of_ble_eq_true rfl) (Nat.le_of_ble_eq_true rfl) ?_
      exact cr_retWz C (w := (fun u : (Nat → Nat → Nat → Nat) × cr_V × cr_V × cr_V × cr_XT => cr_wN ct 17 bg u.2.1 ++ (cr_wN ct 52 bl u.2.2.1 ++ (cr_wN ct 12 bc u.2.2.2.1 ++ cr_wXt ct a u.1 u.2.2.2.2)))) (r, cr_a wg 0 (cr_x (8 + x7)) x8, wl, wc, (cl_uX q43.2 vX)) hW rfl (Option.some.inj hE) dL_acts_964
    · rw [if_pos c44] at hE
      refine lv_iconst (v := 1) hx hb dL_acts_959 (by decide) ?_
      refine lv_goto (tgt := 964) hx hb dL_acts_960 (by decide) ?_
      refine W.widen (k := 1) (n := 25) (Nat.le_of_ble_eq_true rfl) (Nat.le_of_ble_eq_true rfl) ?_
      exact cr_retWz C (w := (fun u : (Nat → Nat → Nat → Nat) × cr_V × cr_V × cr_V × cr_XT => cr_wN ct 17 bg u.2.1 ++ (cr_wN ct 52 bl u.2.2.1 ++ (cr_wN ct 12 bc u.2.2.2.1 ++ cr_wXt ct a u.1 u.2.2.2.2)))) (r, cr_a wg 0 (cr_x (8 + x7)) x8, wl, wc, (cl_uX q43.2 vX)) hW rfl (Option.some.inj hE) dL_acts_964
  have n896 :  ∀ (wg : cr_V) (wl : cr_V) (wc : cr_V) (vX : cr_XT) (x7 : Int32) (s0 : Int32) (hE : f_L_acts_896  wg wl wc vX x7 s0 = some out) (r : Nat → Nat → Nat → Nat) (H : Heap) (locs : List Loc) (ls : Array Slot) (hW : cr_wd D A s (cr_wN ct 17 bg wg ++ (cr_wN ct 52 bl wl ++ (cr_wN ct 12 bc wc ++ cr_wXt ct a r vX))) H locs) (hl : lv_has ls 12 [(0, .ref (a 0 0)), (1, .ref (bg 0)), (7, .int x7)]), W p L e ({ frames := 6, cells := 1, slots := 25, locals := 142 } : Room) s m args below meth c H locs 0 0 (MQ below (va_Qi (fun r (u : (Nat → Nat → Nat → Nat) × cr_V × cr_V × cr_V × cr_XT) => (r, u.2) = out) (fun u t => cr_at D A ((fun u : (Nat → Nat → Nat → Nat) × cr_V × cr_V × cr_V × cr_XT => cr_wN ct 17 bg u.2.1 ++ (cr_wN ct 52 bl u.2.2.1 ++ (cr_wN ct 12 bc u.2.2.2.1 ++ cr_wXt ct a u.1 u.2.2.2.2))) u) t) A) args s 1 25 A) (F0 m 896 ls [.int s0]) := by
    intro  wg wl wc vX x7 s0 hE r H locs ls hW hl
    replace hE : (if x7 = 0 then (if (wg 0 7) ≤ 0 then (f_L_acts_928 wg wl wc vX x7 s0) else ((f_X6_set vX.1 vX.2.1 vX.2.2.1 vX.2.2.2.1 vX.2.2.2.2.1 vX.2.2.2.2.2.1 vX.2.2.2.2.2.2.1 vX.2.2.2.2.2.2.2.1 vX.2.2.2.2.2.2.2.2.1 vX.2.2.2.2.2.2.2.2.2 0 s0).bind fun q47 => if q47.1 = (-2000000002) then (some (1, wg, wl, wc, (cl_uX q47.2 vX))) else (some (0, wg, wl, wc, (cl_uX q47.2 vX))))) else (f_L_acts_928 wg wl wc vX x7 s0)) = some out := hE
    refine lv_istore (lv' := [(8, .int s0), (0, .ref (a 0 0)), (1, .ref (bg 0)), (7, .int x7)]) hx hb dL_acts_896 hl (by decide) rfl (fun ls hl => ?_)
    refine lv_iload hx hb dL_acts_898 (lv_at hl 3 rfl) ?_
    refine lv_if_ne (tgt := 928) hx hb dL_acts_900 (by decide) (fun c45 => ?_) (fun c45 => ?_)
    · rw [if_neg c45] at hE
      exact n928 wg wl wc vX x7 s0 hE _ _ _ _ hW (lv_sub hl [1, 2, 3, 0] rfl)
    · rw [if_pos c45] at hE
      refine lv_aload_n hx hb dL_acts_903 rfl (lv_at hl 2 rfl) ?_
      refine lv_bipush (v := 7) hx hb dL_acts_904 (by decide) ?_
      refine cr_ald C hW.1 0 (f := wg 0) (k := 7) rfl (by decide) (by decide) dL_acts_906 ?_
      refine lv_if_le (tgt := 928) hx hb dL_acts_907 (by decide) (fun c46 => ?_) (fun c46 => ?_)
      · rw [if_pos c46] at hE
        exact n928 wg wl wc vX x7 s0 hE _ _ _ _ hW (lv_sub hl [1, 2, 3, 0] rfl)
      · rw [if_neg c46] at hE
        refine lv_aload_n hx hb dL_acts_910 rfl (lv_at hl 1 rfl) ?_
        refine lv_iconst (v := 0) hx hb dL_acts_911 (by decide) ?_
        refine lv_iload hx hb dL_acts_912 (lv_at hl 0 rfl) ?_
        obtain ⟨q47, hq47, hE⟩ := cr_bind hE
        refine cl_vSBr (nb := 4) (n := 2) (As := [.int 0, .int s0]) (rest := []) hNF hST C hW (m_X6_set L D ct a r vX.1 vX.2.1 vX.2.2.1 vX.2.2.2.1 vX.2.2.2.2.1 vX.2.2.2.2.2.1 vX.2.2.2.2.2.2.1 vX.2.2.2.2.2.2.2.1 vX.2.2.2.2.2.2.2.2.1 vX.2.2.2.2.2.2.2.2.2 0 s0 _ q47 hq47) (cwV 2 hts gL_acts_X6_set rfl rfl rfl (by decide +kernel) ⟨Nat.le_of_ble_eq_true rfl, Nat.le_of_ble_eq_true rfl⟩) [3] [0, 1, 2] [cr_wN ct 17 bg wg, cr_wN ct 52 bl wl, cr_wN ct 12 bc wc, cr_wXt ct a r vX] (fun r => cr_wN ct 17 bg wg ++ (cr_wN ct 52 bl wl ++ (cr_wN ct 12 bc wc ++ cr_wXt ct a r (cl_uX q47.2 vX)))) (fun r => [cr_wN ct 17 bg wg, cr_wN ct 52 bl wl, cr_wN ct 12 bc wc, cr_wXt ct a r (cl_uX q47.2 vX)]) ⟨rfl, rfl⟩ (fun _ => ⟨rfl, rfl⟩) rfl (fun _ => rfl) (fun _ => rfl) (by decide) 3 rfl rfl rfl hl.1 rfl (Nat.le_of_ble_eq_true rfl) dL_acts_914 ⟨Nat.le_of_ble_eq_true rfl, Nat.le_of_ble_eq_true rfl⟩ (fun r H locs hW => ?_)
        refine cr_ldc C k0 dL_acts_917 ?_
        refine lv_icmp_ne (tgt := 926) hx hb dL_acts_919 (by decide) (fun c48 => ?_) (fun c48 => ?_)
        · rw [if_neg c48] at hE
          refine lv_iconst (v := 0) hx hb dL_acts_926 (by decide) ?_
          refine W.widen (k := 1) (n := 25) (Nat.le_of_ble_eq_true rfl) (Nat.le_of_ble_eq_true rfl) ?_
          exact cr_retWz C (w := (fun u : (Nat → Nat → Nat → Nat) × cr_V × cr_V × cr_V × cr_XT => cr_wN ct 17 bg u.2.1 ++ (cr_wN ct 52 bl u.2.2.1 ++ (cr_wN ct 12 bc u.2.2.2.1 ++ cr_wXt ct a u.1 u.2.2.2.2)))) (r, wg, wl, wc, (cl_uX q47.2 vX)) hW rfl (Option.some.inj hE) dL_acts_927
        · rw [if_pos c48] at hE
          refine lv_iconst (v := 1) hx hb dL_acts_922 (by decide) ?_
          refine lv_goto (tgt := 927) hx hb dL_acts_923 (by decide) ?_
          refine W.widen (k := 1) (n := 25) (Nat.le_of_ble_eq_true rfl) (Nat.le_of_ble_eq_true rfl) ?_
          exact cr_retWz C (w := (fun u : (Nat → Nat → Nat → Nat) × cr_V × cr_V × cr_V × cr_XT => cr_wN ct 17 bg u.2.1 ++ (cr_wN ct 52 bl u.2.2.1 ++ (cr_wN ct 12 bc u.2.2.2.1 ++ cr_wXt ct a u.1 u.2.2.2.2)))) (r, wg, wl, wc, (cl_uX q47.2 vX)) hW rfl (Option.some.inj hE) dL_acts_927
  replace hE : ((f_L_low (x4 >>> (5 &&& 31)) 10000000).bind fun q49 => (f_L_low x4 26).bind fun q50 => if 11 ≤ q50 then (if 15 ≤ q50 then (if 20 ≤ q50 then (if 23 ≤ q50 then (if q50 = 23 then (if cr_in (13 + (q49 - q49 / 4 * 4)) 17 = true then (f_X6_worth vX.1 vX.2.1 vX.2.2.1 vX.2.2.2.1 vX.2.2.2.2.1 vX.2.2.2.2.2.1 vX.2.2.2.2.2.2.1 vX.2.2.2.2.2.2.2.1 vX.2.2.2.2.2.2.2.2.1 vX.2.2.2.2.2.2.2.2.2 (q49 - q49 / 4 * 4) ((cr_a wg 0 (cr_x (13 + (q49 - q49 / 4 * 4))) (1 + ((q49 / 4) - (q49 / 4) / 400 * 400))) 0 (cr_x (13 + (q49 - q49 / 4 * 4))))).bind fun q60 => if q60.1 = (wg 0 (cr_x (13 + (q49 - q49 / 4 * 4)))) then (some (1, cr_a wg 0 (cr_x (13 + (q49 - q49 / 4 * 4))) (1 + ((q49 / 4) - (q49 / 4) / 400 * 400)), wl, wc, (cl_uX q60.2 vX))) else (some (0, cr_a wg 0 (cr_x (13 + (q49 - q49 / 4 * 4))) (1 + ((q49 / 4) - (q49 / 4) / 400 * 400)), wl, wc, (cl_uX q60.2 vX))) else none) else (if (q49 - q49 / 5 * 5) = 0 then (f_L_acts_896 wg wl wc vX (q49 - q49 / 5 * 5) (1 + ((q49 / 5) - (q49 / 5) / 250 * 250))) else (if (q49 - q49 / 5 * 5) = 1 then (f_L_acts_896 wg wl wc vX (q49 - q49 / 5 * 5) (1 + ((q49 / 5) - (q49 / 5) / 4095 * 4095))) else (if (q49 - q49 / 5 * 5) = 4 then (f_L_acts_896 wg wl wc vX (q49 - q49 / 5 * 5) ((q49 / 5) - (q49 / 5) / 1000 * 1000)) else (f_L_acts_896 wg wl wc vX (q49 - q49 / 5 * 5) ((q49 / 5) - (q49 / 5) / 51 * 51)))))) else (if (q49 - q49 / 4 * 4) = 0 then (f_L_acts_635 wg wl wc vX 24 q49 1) else (f_L_acts_635 wg wl wc vX 3 q49 1))) else (if (wg 0 7) = 0 then (f_L_acts_327 wg wl wc vX q49 q50 0) else (if (wg 0 7) = 0 then none else f_L_acts_327 wg wl wc vX q49 q50 (q49 - q49 / (wg 0 7) * (wg 0 7))))) else (if (q49 - q49 / 3 * 3) = 0 then (f_L_acts_94 wg wl wc vX q49 40 q49 (wg 0 0)) else (f_L_acts_94 wg wl wc vX q49 5 q49 (wg 0 0)))) else (if 5 ≤ q50 then (if 7 ≤ q50 then (if q50 = 7 then (f_L_acts_63 wg wl wc vX q49 2) else (f_L_acts_63 wg wl wc vX q49 3)) else (f_L_acts_63 wg wl wc vX q49 1)) else (f_L_acts_63 wg wl wc vX q49 0))) = some out := hE
  refine lv_iload hx hb dL_acts_0 (lv_at hl 4 rfl) ?_
  refine lv_iconst (v := 5) hx hb dL_acts_2 (by decide) ?_
  refine lv_ishr hx hb dL_acts_3 ?_
  refine cr_ldc C k4 dL_acts_4 ?_
  obtain ⟨q49, hq49, hE⟩ := cr_bind hE
  refine cr_sRwq (n := 2) (As := [.int (x4 >>> (5 &&& 31)), .int 10000000]) (rest := []) C hW (m_L_low L D ct (x4 >>> (5 &&& 31)) 10000000 q49 hq49) (va_cwS 2 hts gL_acts_L_low rfl rfl rfl (by decide +kernel) ⟨Nat.le_of_ble_eq_true rfl, Nat.le_of_ble_eq_true rfl⟩) rfl hl.1 rfl (Nat.le_of_ble_eq_true rfl) dL_acts_6 ⟨Nat.le_of_ble_eq_true rfl, Nat.le_of_ble_eq_true rfl⟩ (fun H locs hW => ?_)
  refine lv_istore (lv' := [(5, .int q49), (0, .ref (a 0 0)), (1, .ref (bg 0)), (2, .ref (bl 0)), (3, .ref (bc 0)), (4, .int x4)]) hx hb dL_acts_9 hl (by decide) rfl (fun ls hl => ?_)
  refine lv_iload hx hb dL_acts_11 (lv_at hl 5 rfl) ?_
  refine lv_bipush (v := 26) hx hb dL_acts_13 (by decide) ?_
  obtain ⟨q50, hq50, hE⟩ := cr_bind hE
  refine cr_sRwq (n := 2) (As := [.int x4, .int 26]) (rest := []) C hW (m_L_low L D ct x4 26 q50 hq50) (va_cwS 2 hts gL_acts_L_low rfl rfl rfl (by decide +kernel) ⟨Nat.le_of_ble_eq_true rfl, Nat.le_of_ble_eq_true rfl⟩) rfl hl.1 rfl (Nat.le_of_ble_eq_true rfl) dL_acts_15 ⟨Nat.le_of_ble_eq_true rfl, Nat.le_of_ble_eq_true rfl⟩ (fun H locs hW => ?_)
  refine lv_istore (lv' := [(6, .int q50), (5, .int q49), (0, .ref (a 0 0)), (1, .ref (bg 0)), (2, .ref (bl 0)), (3, .ref (bc 0)), (4, .int x4)]) hx hb dL_acts_18 hl (by decide) rfl (fun ls hl => ?_)
  refine lv_iload hx hb dL_acts_20 (lv_at hl 0 rfl) ?_
  refine lv_bipush (v := 11) hx hb dL_acts_22 (by decide) ?_
  refine lv_icmp_ge (tgt := 69) hx hb dL_acts_24 (by decide) (fun c51 => ?_) (fun c51 => ?_)
  · rw [if_pos c51] at hE
    refine lv_iload hx hb dL_acts_69 (lv_at hl 0 rfl) ?_
    refine lv_bipush (v := 15) hx hb dL_acts_71 (by decide) ?_
    refine lv_icmp_ge (tgt := 302) hx hb dL_acts_73 (by decide) (fun c52 => ?_) (fun c52 => ?_)
    · rw [if_pos c52] at hE
      refine lv_iload hx hb dL_acts_302 (lv_at hl 0 rfl) ?_
      refine lv_bipush (v := 20) hx hb dL_acts_304 (by decide) ?_
      refine lv_icmp_ge (tgt := 612) hx hb dL_acts_306 (by decide) (fun c53 => ?_) (fun c53 => ?_)
      · rw [if_pos c53] at hE
        refine lv_iload hx hb dL_acts_612 (lv_at hl 0 rfl) ?_
        refine lv_bipush (v := 23) hx hb dL_acts_614 (by decide) ?_
        refine lv_icmp_ge (tgt := 766) hx hb dL_acts_616 (by decide) (fun c54 => ?_) (fun c54 => ?_)
        · rw [if_pos c54] at hE
          refine lv_iload hx hb dL_acts_766 (lv_at hl 0 rfl) ?_
          refine lv_bipush (v := 23) hx hb dL_acts_768 (by decide) ?_
          refine lv_icmp_ne (tgt := 829) hx hb dL_acts_770 (by decide) (fun c55 => ?_) (fun c55 => ?_)
          · rw [if_neg c55] at hE
            refine lv_iload hx hb dL_acts_829 (lv_at hl 1 rfl) ?_
            refine lv_iconst (v := 5) hx hb dL_acts_831 (by decide) ?_
            refine lv_irem hx hb dL_acts_832 (by decide) ?_
            refine lv_istore (lv' := [(7, .int (q49 - q49 / 5 * 5)), (6, .int q50), (5, .int q49), (0, .ref (a 0 0)), (1, .ref (bg 0)), (2, .ref (bl 0)), (3, .ref (bc 0)), (4, .int x4)]) hx hb dL_acts_833 hl (by decide) rfl (fun ls hl => ?_)
            refine lv_iload hx hb dL_acts_835 (lv_at hl 0 rfl) ?_
            refine lv_if_ne (tgt := 853) hx hb dL_acts_837 (by decide) (fun c56 => ?_) (fun c56 => ?_)
            · rw [if_neg c56] at hE
              refine lv_iload hx hb dL_acts_853 (lv_at hl 0 rfl) ?_
              refine lv_iconst (v := 1) hx hb dL_acts_855 (by decide) ?_
              refine lv_icmp_ne (tgt := 872) hx hb dL_acts_856 (by decide) (fun c57 => ?_) (fun c57 => ?_)
              · rw [if_neg c57] at hE
                refine lv_iload hx hb dL_acts_872 (lv_at hl 0 rfl) ?_
                refine lv_iconst (v := 4) hx hb dL_acts_874 (by decide) ?_
                refine lv_icmp_ne (tgt := 889) hx hb dL_acts_875 (by decide) (fun c58 => ?_) (fun c58 => ?_)
                · rw [if_neg c58] at hE
                  refine lv_iload hx hb dL_acts_889 (lv_at hl 2 rfl) ?_
                  refine lv_iconst (v := 5) hx hb dL_acts_891 (by decide) ?_
                  refine lv_idiv hx hb dL_acts_892 (by decide) ?_
                  refine lv_bipush (v := 51) hx hb dL_acts_893 (by decide) ?_
                  refine lv_irem hx hb dL_acts_895 (by decide) ?_
                  exact n896 wg wl wc vX (q49 - q49 / 5 * 5) ((q49 / 5) - (q49 / 5) / 51 * 51) hE _ _ _ _ hW (lv_sub hl [3, 4, 0] rfl)
                · rw [if_pos c58] at hE
                  refine lv_iload hx hb dL_acts_878 (lv_at hl 2 rfl) ?_
                  refine lv_iconst (v := 5) hx hb dL_acts_880 (by decide) ?_
                  refine lv_idiv hx hb dL_acts_881 (by decide) ?_
                  refine lv_sipush (v := 1000) hx hb dL_acts_882 (by decide) ?_
                  refine lv_irem hx hb dL_acts_885 (by decide) ?_
                  refine lv_goto (tgt := 896) hx hb dL_acts_886 (by decide) ?_
                  exact n896 wg wl wc vX (q49 - q49 / 5 * 5) ((q49 / 5) - (q49 / 5) / 1000 * 1000) hE _ _ _ _ hW (lv_sub hl [3, 4, 0] rfl)
              · rw [if_pos c57] at hE
                refine lv_iconst (v := 1) hx hb dL_acts_859 (by decide) ?_
                refine lv_iload hx hb dL_acts_860 (lv_at hl 2 rfl) ?_
                refine lv_iconst (v := 5) hx hb dL_acts_862 (by decide) ?_
                refine lv_idiv hx hb dL_acts_863 (by decide) ?_
                refine lv_sipush (v := 4095) hx hb dL_acts_864 (by decide) ?_
                refine lv_irem hx hb dL_acts_867 (by decide) ?_
                refine lv_iadd hx hb dL_acts_868 ?_
                refine lv_goto (tgt := 896) hx hb dL_acts_869 (by decide) ?_
                exact n896 wg wl wc vX (q49 - q49 / 5 * 5) (1 + ((q49 / 5) - (q49 / 5) / 4095 * 4095)) hE _ _ _ _ hW (lv_sub hl [3, 4, 0] rfl)
            · rw [if_pos c56] at hE
              refine lv_iconst (v := 1) hx hb dL_acts_840 (by decide) ?_
              refine lv_iload hx hb dL_acts_841 (lv_at hl 2 rfl) ?_
              refine lv_iconst (v := 5) hx hb dL_acts_843 (by decide) ?_
              refine lv_idiv hx hb dL_acts_844 (by decide) ?_
              refine lv_sipush (v := 250) hx hb dL_acts_845 (by decide) ?_
              refine lv_irem hx hb dL_acts_848 (by decide) ?_
              refine lv_iadd hx hb dL_acts_849 ?_
              refine lv_goto (tgt := 896) hx hb dL_acts_850 (by decide) ?_
              exact n896 wg wl wc vX (q49 - q49 / 5 * 5) (1 + ((q49 / 5) - (q49 / 5) / 250 * 250)) hE _ _ _ _ hW (lv_sub hl [3, 4, 0] rfl)
          · rw [if_pos c55] at hE
            refine lv_iload hx hb dL_acts_773 (lv_at hl 1 rfl) ?_
            refine lv_iconst (v := 4) hx hb dL_acts_775 (by decide) ?_
            refine lv_irem hx hb dL_acts_776 (by decide) ?_
            refine lv_istore (lv' := [(7, .int (q49 - q49 / 4 * 4)), (6, .int q50), (5, .int q49), (0, .ref (a 0 0)), (1, .ref (bg 0)), (2, .ref (bl 0)), (3, .ref (bc 0)), (4, .int x4)]) hx hb dL_acts_777 hl (by decide) rfl (fun ls hl => ?_)
            refine lv_aload_n hx hb dL_acts_779 rfl (lv_at hl 4 rfl) ?_
            refine lv_bipush (v := 13) hx hb dL_acts_780 (by decide) ?_
            refine lv_iload hx hb dL_acts_782 (lv_at hl 0 rfl) ?_
            refine lv_iadd hx hb dL_acts_784 ?_
            obtain ⟨i59, hE⟩ := cr_ifn hE
            refine cr_ald C hW.1 0 (f := wg 0) (k := cr_x (13 + (q49 - q49 / 4 * 4))) rfl i59 (cr_xe _) dL_acts_785 ?_
            refine lv_istore (lv' := [(8, .int (wg 0 (cr_x (13 + (q49 - q49 / 4 * 4))))), (7, .int (q49 - q49 / 4 * 4)), (6, .int q50), (5, .int q49), (0, .ref (a 0 0)), (1, .ref (bg 0)), (2, .ref (bl 0)), (3, .ref (bc 0)), (4, .int x4)]) hx hb dL_acts_786 hl (by decide) rfl (fun ls hl => ?_)
            refine lv_aload_n hx hb dL_acts_788 rfl (lv_at hl 5 rfl) ?_
            refine lv_bipush (v := 13) hx hb dL_acts_789 (by decide) ?_
            refine lv_iload hx hb dL_acts_791 (lv_at hl 1 rfl) ?_
            refine lv_iadd hx hb dL_acts_793 ?_
            refine lv_iconst (v := 1) hx hb dL_acts_794 (by decide) ?_
            refine lv_iload hx hb dL_acts_795 (lv_at hl 3 rfl) ?_
            refine lv_iconst (v := 4) hx hb dL_acts_797 (by decide) ?_
            refine lv_idiv hx hb dL_acts_798 (by decide) ?_
            refine lv_sipush (v := 400) hx hb dL_acts_799 (by decide) ?_
            refine lv_irem hx hb dL_acts_802 (by decide) ?_
            refine lv_iadd hx hb dL_acts_803 ?_
            refine cr_ast C hW 0 rfl (k := (cr_x (13 + (q49 - q49 / 4 * 4)))) i59 (cr_xe _) (w' := cr_wN ct 17 bg (cr_a wg 0 (cr_x (13 + (q49 - q49 / 4 * 4))) (1 + ((q49 / 4) - (q49 / 4) / 400 * 400))) ++ (cr_wN ct 52 bl wl ++ (cr_wN ct 12 bc wc ++ cr_wXt ct a r vX))) rfl dL_acts_804 (fun H locs hW => ?_)
            refine lv_aload_n hx hb dL_acts_805 rfl (lv_at hl 4 rfl) ?_
            refine lv_iload hx hb dL_acts_806 (lv_at hl 1 rfl) ?_
            refine lv_aload_n hx hb dL_acts_808 rfl (lv_at hl 5 rfl) ?_
            refine lv_bipush (v := 13) hx hb dL_acts_809 (by decide) ?_
            refine lv_iload hx hb dL_acts_811 (lv_at hl 1 rfl) ?_
            refine lv_iadd hx hb dL_acts_813 ?_
            refine cr_ald C hW.1 0 (f := (cr_a wg 0 (cr_x (13 + (q49 - q49 / 4 * 4))) (1 + ((q49 / 4) - (q49 / 4) / 400 * 400))) 0) (k := cr_x (13 + (q49 - q49 / 4 * 4))) rfl i59 (cr_xe _) dL_acts_814 ?_
            obtain ⟨q60, hq60, hE⟩ := cr_bind hE
            refine cl_vWBr (nb := 4) (n := 2) (As := [.int (q49 - q49 / 4 * 4), .int ((cr_a wg 0 (cr_x (13 + (q49 - q49 / 4 * 4))) (1 + ((q49 / 4) - (q49 / 4) / 400 * 400))) 0 (cr_x (13 + (q49 - q49 / 4 * 4))))]) (rest := []) C hW (m_X6_worth L D ct a r vX.1 vX.2.1 vX.2.2.1 vX.2.2.2.1 vX.2.2.2.2.1 vX.2.2.2.2.2.1 vX.2.2.2.2.2.2.1 vX.2.2.2.2.2.2.2.1 vX.2.2.2.2.2.2.2.2.1 vX.2.2.2.2.2.2.2.2.2 (q49 - q49 / 4 * 4) ((cr_a wg 0 (cr_x (13 + (q49 - q49 / 4 * 4))) (1 + ((q49 / 4) - (q49 / 4) / 400 * 400))) 0 (cr_x (13 + (q49 - q49 / 4 * 4)))) _ q60 hq60) (cwV 2 hts gL_acts_X6_worth rfl rfl rfl (by decide +kernel) ⟨Nat.le_of_ble_eq_true rfl, Nat.le_of_ble_eq_true rfl⟩) [3] [0, 1, 2] [cr_wN ct 17 bg (cr_a wg 0 (cr_x (13 + (q49 - q49 / 4 * 4))) (1 + ((q49 / 4) - (q49 / 4) / 400 * 400))), cr_wN ct 52 bl wl, cr_wN ct 12 bc wc, cr_wXt ct a r vX] (fun r => cr_wN ct 17 bg (cr_a wg 0 (cr_x (13 + (q49 - q49 / 4 * 4))) (1 + ((q49 / 4) - (q49 / 4) / 400 * 400))) ++ (cr_wN ct 52 bl wl ++ (cr_wN ct 12 bc wc ++ cr_wXt ct a r (cl_uX q60.2 vX)))) (fun r => [cr_wN ct 17 bg (cr_a wg 0 (cr_x (13 + (q49 - q49 / 4 * 4))) (1 + ((q49 / 4) - (q49 / 4) / 400 * 400))), cr_wN ct 52 bl wl, cr_wN ct 12 bc wc, cr_wXt ct a r (cl_uX q60.2 vX)]) ⟨rfl, rfl⟩ (fun _ => ⟨rfl, rfl⟩) rfl (fun _ => rfl) (fun _ => rfl) (by decide) 3 rfl rfl rfl hl.1 rfl (Nat.le_of_ble_eq_true rfl) dL_acts_815 ⟨Nat.le_of_ble_eq_true rfl, Nat.le_of_ble_eq_true rfl⟩ (fun r H locs hW => ?_)
            refine lv_iload hx hb dL_acts_818 (lv_at hl 0 rfl) ?_
            refine lv_icmp_ne (tgt := 827) hx hb dL_acts_820 (by decide) (fun c61 => ?_) (fun c61 => ?_)
            · rw [if_neg c61] at hE
              refine lv_iconst (v := 0) hx hb dL_acts_827 (by decide) ?_
              refine W.widen (k := 1) (n := 25) (Nat.le_of_ble_eq_true rfl) (Nat.le_of_ble_eq_true rfl) ?_
              exact cr_retWz C (w := (fun u : (Nat → Nat → Nat → Nat) × cr_V × cr_V × cr_V × cr_XT => cr_wN ct 17 bg u.2.1 ++ (cr_wN ct 52 bl u.2.2.1 ++ (cr_wN ct 12 bc u.2.2.2.1 ++ cr_wXt ct a u.1 u.2.2.2.2)))) (r, cr_a wg 0 (cr_x (13 + (q49 - q49 / 4 * 4))) (1 + ((q49 / 4) - (q49 / 4) / 400 * 400)), wl, wc, (cl_uX q60.2 vX)) hW rfl (Option.some.inj hE) dL_acts_828
            · rw [if_pos c61] at hE
              refine lv_iconst (v := 1) hx hb dL_acts_823 (by decide) ?_
              refine lv_goto (tgt := 828) hx hb dL_acts_824 (by decide) ?_
              refine W.widen (k := 1) (n := 25) (Nat.le_of_ble_eq_true rfl) (Nat.le_of_ble_eq_true rfl) ?_
              exact cr_retWz C (w := (fun u : (Nat → Nat → Nat → Nat) × cr_V × cr_V × cr_V × cr_XT => cr_wN ct 17 bg u.2.1 ++ (cr_wN ct 52 bl u.2.2.1 ++ (cr_wN ct 12 bc u.2.2.2.1 ++ cr_wXt ct a u.1 u.2.2.2.2)))) (r, cr_a wg 0 (cr_x (13 + (q49 - q49 / 4 * 4))) (1 + ((q49 / 4) - (q49 / 4) / 400 * 400)), wl, wc, (cl_uX q60.2 vX)) hW rfl (Option.some.inj hE) dL_acts_828
        · rw [if_neg c54] at hE
          refine lv_iconst (v := 1) hx hb dL_acts_619 (by decide) ?_
          refine lv_iload hx hb dL_acts_620 (lv_at hl 1 rfl) ?_
          refine lv_iload hx hb dL_acts_622 (lv_at hl 1 rfl) ?_
          refine lv_iconst (v := 4) hx hb dL_acts_624 (by decide) ?_
          refine lv_irem hx hb dL_acts_625 (by decide) ?_
          refine lv_if_ne (tgt := 634) hx hb dL_acts_626 (by decide) (fun c62 => ?_) (fun c62 => ?_)
          · rw [if_neg c62] at hE
            refine lv_iconst (v := 3) hx hb dL_acts_634 (by decide) ?_
            exact n635 wg wl wc vX 3 q49 1 hE _ _ _ _ hW (lv_sub hl [2, 3, 5] rfl)
          · rw [if_pos c62] at hE
            refine lv_bipush (v := 24) hx hb dL_acts_629 (by decide) ?_
            refine lv_goto (tgt := 635) hx hb dL_acts_631 (by decide) ?_
            exact n635 wg wl wc vX 24 q49 1 hE _ _ _ _ hW (lv_sub hl [2, 3, 5] rfl)
      · rw [if_neg c53] at hE
        refine lv_aload_n hx hb dL_acts_309 rfl (lv_at hl 3 rfl) ?_
        refine lv_bipush (v := 7) hx hb dL_acts_310 (by decide) ?_
        refine cr_ald C hW.1 0 (f := wg 0) (k := 7) rfl (by decide) (by decide) dL_acts_312 ?_
        refine lv_if_ne (tgt := 320) hx hb dL_acts_313 (by decide) (fun c63 => ?_) (fun c63 => ?_)
        · rw [if_neg c63] at hE
          refine lv_iload hx hb dL_acts_320 (lv_at hl 1 rfl) ?_
          refine lv_aload_n hx hb dL_acts_322 rfl (lv_at hl 3 rfl) ?_
          refine lv_bipush (v := 7) hx hb dL_acts_323 (by decide) ?_
          refine cr_ald C hW.1 0 (f := wg 0) (k := 7) rfl (by decide) (by decide) dL_acts_325 ?_
          obtain ⟨z64, hE⟩ := cr_ifz hE
          refine lv_irem hx hb dL_acts_326 z64 ?_
          exact n327 wg wl wc vX q49 q50 (q49 - q49 / (wg 0 7) * (wg 0 7)) hE _ _ _ _ hW (lv_sub hl [2, 3, 4, 5, 1, 0] rfl)
        · rw [if_pos c63] at hE
          refine lv_iconst (v := 0) hx hb dL_acts_316 (by decide) ?_
          refine lv_goto (tgt := 327) hx hb dL_acts_317 (by decide) ?_
          exact n327 wg wl wc vX q49 q50 0 hE _ _ _ _ hW (lv_sub hl [2, 3, 4, 5, 1, 0] rfl)
    · rw [if_neg c52] at hE
      refine lv_aload_n hx hb dL_acts_76 rfl (lv_at hl 3 rfl) ?_
      refine lv_iconst (v := 0) hx hb dL_acts_77 (by decide) ?_
      refine cr_ald C hW.1 0 (f := wg 0) (k := 0) rfl (by decide) (by decide) dL_acts_78 ?_
      refine lv_iload hx hb dL_acts_79 (lv_at hl 1 rfl) ?_
      refine lv_iload hx hb dL_acts_81 (lv_at hl 1 rfl) ?_
      refine lv_iconst (v := 3) hx hb dL_acts_83 (by decide) ?_
      refine lv_irem hx hb dL_acts_84 (by decide) ?_
      refine lv_if_ne (tgt := 93) hx hb dL_acts_85 (by decide) (fun c65 => ?_) (fun c65 => ?_)
      · rw [if_neg c65] at hE
        refine lv_iconst (v := 5) hx hb dL_acts_93 (by decide) ?_
        exact n94 wg wl wc vX q49 5 q49 (wg 0 0) hE _ _ _ _ hW (lv_sub hl [2, 3, 5, 1] rfl)
      · rw [if_pos c65] at hE
        refine lv_bipush (v := 40) hx hb dL_acts_88 (by decide) ?_
        refine lv_goto (tgt := 94) hx hb dL_acts_90 (by decide) ?_
        exact n94 wg wl wc vX q49 40 q49 (wg 0 0) hE _ _ _ _ hW (lv_sub hl [2, 3, 5, 1] rfl)
  · rw [if_neg c51] at hE
    refine lv_aload_n hx hb dL_acts_27 rfl (lv_at hl 2 rfl) ?_
    refine lv_aload_n hx hb dL_acts_28 rfl (lv_at hl 3 rfl) ?_
    refine lv_aload_n hx hb dL_acts_29 rfl (lv_at hl 4 rfl) ?_
    refine lv_iload hx hb dL_acts_30 (lv_at hl 0 rfl) ?_
    refine lv_iconst (v := 5) hx hb dL_acts_32 (by decide) ?_
    refine lv_icmp_ge (tgt := 40) hx hb dL_acts_33 (by decide) (fun c66 => ?_) (fun c66 => ?_)
    · rw [if_pos c66] at hE
      refine lv_iload hx hb dL_acts_40 (lv_at hl 0 rfl) ?_
      refine lv_bipush (v := 7) hx hb dL_acts_42 (by decide) ?_
      refine lv_icmp_ge (tgt := 51) hx hb dL_acts_44 (by decide) (fun c67 => ?_) (fun c67 => ?_)
      · rw [if_pos c67] at hE
        refine lv_iload hx hb dL_acts_51 (lv_at hl 0 rfl) ?_
        refine lv_bipush (v := 7) hx hb dL_acts_53 (by decide) ?_
        refine lv_icmp_ne (tgt := 62) hx hb dL_acts_55 (by decide) (fun c68 => ?_) (fun c68 => ?_)
        · rw [if_neg c68] at hE
          refine lv_iconst (v := 3) hx hb dL_acts_62 (by decide) ?_
          exact n63 wg wl wc vX q49 3 hE _ _ _ _ hW (lv_sub hl [1] rfl)
        · rw [if_pos c68] at hE
          refine lv_iconst (v := 2) hx hb dL_acts_58 (by decide) ?_
          refine lv_goto (tgt := 63) hx hb dL_acts_59 (by decide) ?_
          exact n63 wg wl wc vX q49 2 hE _ _ _ _ hW (lv_sub hl [1] rfl)
      · rw [if_neg c67] at hE
        refine lv_iconst (v := 1) hx hb dL_acts_47 (by decide) ?_
        refine lv_goto (tgt := 63) hx hb dL_acts_48 (by decide) ?_
        exact n63 wg wl wc vX q49 1 hE _ _ _ _ hW (lv_sub hl [1] rfl)
    · rw [if_neg c66] at hE
      refine lv_iconst (v := 0) hx hb dL_acts_36 (by decide) ?_
      refine lv_goto (tgt := 63) hx hb dL_acts_37 (by decide) ?_
      exact n63 wg wl wc vX q49 0 hE _ _ _ _ hW (lv_sub hl [1] rfl)
