abbrev cr_wR0 (ct : Nat → ClassId) (a : Nat → Nat) (v : cr_V) (r : Nat → Nat → Nat → Nat) : va_W := [(a 0, .inr (2, [.ref (a 1), .int (v 1 0)])), (a 1, .inl (ct 3, 4, .inr (.inr (.inr (.inr (fun j => some (r j 0 0)))))))]
abbrev cr_wRf (ct : Nat → ClassId) (a : Nat → Nat) (v : cr_V) (f : Nat → Option Nat) (r : Nat → Nat → Nat → Nat) (x : Nat → Nat → cr_V) : va_W := [(a 0, .inr (2, [.ref (a 1), .int (v 1 0)])), (a 1, .inl (ct 3, 4, .inr (.inr (.inr (.inr f)))))] ++ (cr_wH ct (r 0 0) (r 0 1) (r 0 2) (x 0 0) (x 0 1) (x 0 2) ++ (cr_wH ct (r 1 0) (r 1 1) (r 1 2) (x 1 0) (x 1 1) (x 1 2) ++ (cr_wH ct (r 2 0) (r 2 1) (r 2 2) (x 2 0) (x 2 1) (x 2 2) ++ cr_wH ct (r 3 0) (r 3 1) (r 3 2) (x 3 0) (x 3 1) (x 3 2))))
theorem cr_arrE {cI : ClassId} {N : Nat} {f g : Nat → Value} (h : ∀ j, j < N → f j = g j) : arrV cI N f = arrV cI N g := by
  unfold arrV
  congr 1
  apply Array.ext
  · simp
  · intro i h1 h2
    simp at h1 ⊢
    exact h i h1
section CRH
variable {p : Program} {l : Launch} {e : Env} {R : Room} {s : State} {m : MethodId} {args : Array Value} {below : List Frame} {meth : Method} {c : Code} {H : Heap} {locs : List Loc} {cells slots : Nat} {Q : State → Prop}
variable {own : String} {Ts : List Cond} {cc : ByteArray} {nL : Nat} {ret : Option FieldType} {D : va_G} {ct : Nat → ClassId} {A : Nat → Prop} {ws : va_W} {pc : Nat} {ls : Array Slot} {rest st : List Value} {a b : Nat}
variable {y : MethodName} {bytes : ByteArray} {maxL n index : Nat} {rt : Option FieldType} {wy : List Cond} {rm : Room} {Cn : String} {As : List Value} {wc : va_W} {ci : Nat} {fs : List Value} {T : u_T} {N : Nat}
theorem cr_aldq (C : cr_Cx p s m meth c args own Ts cc nL ret D ct) (hP : va_P D vwCl ws H) (q0 : Nat) {n : Nat} {f : Nat → Option Nat} (ha : ws[q0]? = some (a, .inl (ct 3, n, .inr (.inr (.inr (.inr f)))))) {i : Int32} {k v : Nat} (hin : cr_in i n = true) (hk : i.toNatClampNeg = k) (hv : f k = some v) (hdg : decode cc pc = .ok (.aaload, 1))
    (kk : W p l e R s m args below meth c H locs cells slots Q (F0 m (pc + 1) ls (.ref v :: rest))) : W p l e R s m args below meth c H locs cells slots Q (F0 m pc ls (.int i :: .ref a :: rest)) := by
  subst hk
  refine va_aldq C.1 C.2.1 C.2.2.2.2.2.2.2.1 hP q0 3 ha rfl (cr_in_of hin) hdg ?_
  rw [hv]
  exact kk
theorem cr_astq (C : cr_Cx p s m meth c args own Ts cc nL ret D ct) (hW : cr_wd D A s ws H locs) (q0 qk : Nat) {n v : Nat} {vs : List Value} {f : Nat → Option Nat} (ha : ws[q0]? = some (a, .inl (ct 3, n, .inr (.inr (.inr (.inr f)))))) (hv : ws[qk]? = some (v, .inr (3, vs))) {i : Int32} {k : Nat} (hin : cr_in i n = true) (hk : i.toNatClampNeg = k) {w' : va_W} (hw : ws.set q0 (a, .inl (ct 3, n, .inr (.inr (.inr (.inr (va_up f k (some v))))))) = w') (hdg : decode cc pc = .ok (.aastore, 1))
    (kk : ∀ (H1 : Heap) (locs1 : List Loc), cr_wd D A s w' H1 locs1 → W p l e R s m args below meth c H1 locs1 cells slots Q (F0 m (pc + 1) ls rest)) : W p l e R s m args below meth c H locs cells slots Q (F0 m pc ls (.ref v :: .int i :: .ref a :: rest)) := by
  obtain ⟨hP, hD, hS, hA⟩ := hW
  subst hw; subst hk
  exact va_astq C.1 C.2.1 C.2.2.2.2.2.2.2.1 hP hD hS q0 3 qk 3 (r := (RX3, TX3, 9)) ha rfl hv rfl (cr_in_of hin) hdg (fun H1 locs1 h1 h2 h3 => kk H1 locs1 ⟨h1, h2, h3, hA⟩)
theorem cr_wd.refs {q0 : Nat} {n : Nat} {f g : Nat → Option Nat} {w' : va_W} (hW : cr_wd D A s ws H locs) (ha : ws[q0]? = some (a, .inl (ct 3, n, .inr (.inr (.inr (.inr f)))))) (hfg : ∀ j, j < n → f j = g j) (hw : ws.set q0 (a, .inl (ct 3, n, .inr (.inr (.inr (.inr g))))) = w') : cr_wd D A s w' H locs := by
  obtain ⟨hP, hD, hS, hA⟩ := hW
  subst hw
  refine ⟨hP.set hD ha ?_ (fun _ _ => rfl), hD.set ha, hS, hA⟩
  have h1 := hP q0 _ ha
  show H[a]? = some (vp_cell _ _)
  rw [show vp_cell (ct 3) (n, .inr (.inr (.inr (.inr g)))) = vp_cell (ct 3) (n, .inr (.inr (.inr (.inr f)))) from by rw [vp_cell_q, vp_cell_q]; exact cr_arrE fun j hj => by rw [hfg j hj]]
  exact h1

end CRH
set_option maxHeartbeats 4000000 in
set_option maxRecDepth 100000 in
theorem m_X2_dropOldest (L : Launch) (D : va_G) (ct : Nat → ClassId) (as : Nat → Nat) (r : Nat → Nat → Nat → Nat) (vs : cr_V) (vx : Nat → Nat → cr_V) (sz : Nat) (out : cr_V × (Nat → Nat → cr_V)) (hE : f_X2_dropOldest vs vx = some out) : Met L yX2_dropOldest wsX2_dropOldest ({ frames := 0, cells := 0, slots := 0, locals := 0 } : Room) (cr_pW D ct (cr_wR ct as vs r vx) sz [.ref (as 0)]) (cr_QV D (cr_wR ct as vs r vx) sz (fun u : (Nat → Nat → Nat → Nat) × cr_V × (Nat → Nat → cr_V) => u.2 = out) (fun u : (Nat → Nat → Nat → Nat) × cr_V × (Nat → Nat → cr_V) => cr_wR ct as u.2.1 u.1 u.2.2)) 0 0 (va_A (cr_wR ct as vs r vx) sz) := by
  have k0 : (Cond.fieldLink RX2 11 "CupReceipts$History" "rooms" "[LCupReceipts$House;") ∈ wsX2_dropOldest := List.mem_of_getElem? (i := 1) rfl
  have k1 : (Cond.fieldLink RX2 18 "CupReceipts$History" "states" "I") ∈ wsX2_dropOldest := List.mem_of_getElem? (i := 2) rfl
  have hinX2 : ∀ w ∈ wsX20, w ∈ wsX2_dropOldest := fun w h => List.mem_cons_of_mem _ (List.mem_append_right _ h)
  refine cr_metW (Qc := fun A => va_Qv (fun u : (Nat → Nat → Nat → Nat) × cr_V × (Nat → Nat → cr_V) => u.2 = out) (fun u t => cr_at D A ((fun u : (Nat → Nat → Nat → Nat) × cr_V × (Nat → Nat → cr_V) => cr_wR ct as u.2.1 u.1 u.2.2) u) t) A) (by decide) rfl rfl (Nat.le_of_ble_eq_true rfl) ?_
  intro p e s m args below meth c ls A C hW hl
  obtain ⟨hx, hb, hml, hown, hts, hr, hlocks, hK, hN⟩ := id C
  have hl : lv_has ls 3 [(0, .ref (as 0))] := hl
  refine lv_aload_n hx hb dX2_dropOldest_0 rfl (lv_at hl 0 rfl) ?_
  refine cr_get C hW.1 0 rfl rfl 0 (by decide) hinX2 k0 (v := .ref (as 1)) rfl dX2_dropOldest_1 ?_
  refine lv_iconst (v := 0) hx hb dX2_dropOldest_4 (by decide) ?_
  refine cr_aldq C hW.1 1 (k := 0) (v := r 0 0 0) rfl (by decide) (by decide) rfl dX2_dropOldest_5 ?_
  refine lv_astore_n (lv' := [(1, .ref (r 0 0 0)), (0, .ref (as 0))]) hx hb dX2_dropOldest_6 rfl hl (by decide) rfl (fun ls hl => ?_)
  refine lv_iconst (v := 1) hx hb dX2_dropOldest_7 (by decide) ?_
  refine lv_istore_n (lv' := [(2, .int 1), (1, .ref (r 0 0 0)), (0, .ref (as 0))]) hx hb dX2_dropOldest_8 rfl hl (by decide) rfl (fun ls hl => ?_)

  refine lv_iload_n hx hb dX2_dropOldest_9 rfl (lv_at hl 0 rfl) ?_
  refine lv_iconst (v := 4) hx hb dX2_dropOldest_10 (by decide) ?_
  refine lv_icmp_ge (tgt := 34) hx hb dX2_dropOldest_11 (by decide) (fun c1 => absurd c1 (by decide)) (fun c1 => ?_)
  refine lv_aload_n hx hb dX2_dropOldest_14 rfl (lv_at hl 2 rfl) ?_
  refine cr_get C hW.1 0 rfl rfl 0 (by decide) hinX2 k0 (v := .ref (as 1)) rfl dX2_dropOldest_15 ?_
  refine lv_iload_n hx hb dX2_dropOldest_18 rfl (lv_at hl 0 rfl) ?_
  refine lv_iconst (v := 1) hx hb dX2_dropOldest_19 (by decide) ?_
  refine lv_isub hx hb dX2_dropOldest_20 ?_
  refine lv_aload_n hx hb dX2_dropOldest_21 rfl (lv_at hl 2 rfl) ?_
  refine cr_get C hW.1 0 rfl rfl 0 (by decide) hinX2 k0 (v := .ref (as 1)) rfl dX2_dropOldest_22 ?_
  refine lv_iload_n hx hb dX2_dropOldest_25 rfl (lv_at hl 0 rfl) ?_
  refine cr_aldq C hW.1 1 (k := 1) (v := r 1 0 0) rfl (by decide) (by decide) rfl dX2_dropOldest_26 ?_
  refine cr_astq C hW 1 13 rfl rfl (k := 0) (by decide) (by decide) (w' := cr_wRf ct as vs (va_up (fun j => some (r j 0 0)) 0 (some (r 1 0 0))) r vx) rfl dX2_dropOldest_27 (fun H locs hW => ?_)
  refine lv_iinc (v := 2) (lv' := [(2, .int 2), (1, .ref (r 0 0 0)), (0, .ref (as 0))]) hx hb dX2_dropOldest_28 hl (k := 0) rfl (by first | rfl | decide) (by decide) rfl (fun ls hl => ?_)
  refine lv_goto (tgt := 9) hx hb dX2_dropOldest_31 (by decide) ?_
  refine lv_iload_n hx hb dX2_dropOldest_9 rfl (lv_at hl 0 rfl) ?_
  refine lv_iconst (v := 4) hx hb dX2_dropOldest_10 (by decide) ?_
  refine lv_icmp_ge (tgt := 34) hx hb dX2_dropOldest_11 (by decide) (fun c1 => absurd c1 (by decide)) (fun c1 => ?_)
  refine lv_aload_n hx hb dX2_dropOldest_14 rfl (lv_at hl 2 rfl) ?_
  refine cr_get C hW.1 0 rfl rfl 0 (by decide) hinX2 k0 (v := .ref (as 1)) rfl dX2_dropOldest_15 ?_
  refine lv_iload_n hx hb dX2_dropOldest_18 rfl (lv_at hl 0 rfl) ?_
  refine lv_iconst (v := 1) hx hb dX2_dropOldest_19 (by decide) ?_
  refine lv_isub hx hb dX2_dropOldest_20 ?_
  refine lv_aload_n hx hb dX2_dropOldest_21 rfl (lv_at hl 2 rfl) ?_
  refine cr_get C hW.1 0 rfl rfl 0 (by decide) hinX2 k0 (v := .ref (as 1)) rfl dX2_dropOldest_22 ?_
  refine lv_iload_n hx hb dX2_dropOldest_25 rfl (lv_at hl 0 rfl) ?_
  refine cr_aldq C hW.1 1 (k := 2) (v := r 2 0 0) rfl (by decide) (by decide) rfl dX2_dropOldest_26 ?_
  refine cr_astq C hW 1 24 rfl rfl (k := 1) (by decide) (by decide) (w' := cr_wRf ct as vs (va_up (va_up (fun j => some (r j 0 0)) 0 (some (r 1 0 0))) 1 (some (r 2 0 0))) r vx) rfl dX2_dropOldest_27 (fun H locs hW => ?_)
  refine lv_iinc (v := 3) (lv' := [(2, .int 3), (1, .ref (r 0 0 0)), (0, .ref (as 0))]) hx hb dX2_dropOldest_28 hl (k := 0) rfl (by first | rfl | decide) (by decide) rfl (fun ls hl => ?_)
  refine lv_goto (tgt := 9) hx hb dX2_dropOldest_31 (by decide) ?_
  refine lv_iload_n hx hb dX2_dropOldest_9 rfl (lv_at hl 0 rfl) ?_
  refine lv_iconst (v := 4) hx hb dX2_dropOldest_10 (by decide) ?_
  refine lv_icmp_ge (tgt := 34) hx hb dX2_dropOldest_11 (by decide) (fun c1 => absurd c1 (by decide)) (fun c1 => ?_)
  refine lv_aload_n hx hb dX2_dropOldest_14 rfl (lv_at hl 2 rfl) ?_
  refine cr_get C hW.1 0 rfl rfl 0 (by decide) hinX2 k0 (v := .ref (as 1)) rfl dX2_dropOldest_15 ?_
  refine lv_iload_n hx hb dX2_dropOldest_18 rfl (lv_at hl 0 rfl) ?_
  refine lv_iconst (v := 1) hx hb dX2_dropOldest_19 (by decide) ?_
  refine lv_isub hx hb dX2_dropOldest_20 ?_
  refine lv_aload_n hx hb dX2_dropOldest_21 rfl (lv_at hl 2 rfl) ?_
  refine cr_get C hW.1 0 rfl rfl 0 (by decide) hinX2 k0 (v := .ref (as 1)) rfl dX2_dropOldest_22 ?_
  refine lv_iload_n hx hb dX2_dropOldest_25 rfl (lv_at hl 0 rfl) ?_
  refine cr_aldq C hW.1 1 (k := 3) (v := r 3 0 0) rfl (by decide) (by decide) rfl dX2_dropOldest_26 ?_
  refine cr_astq C hW 1 35 rfl rfl (k := 2) (by decide) (by decide) (w' := cr_wRf ct as vs (va_up (va_up (va_up (fun j => some (r j 0 0)) 0 (some (r 1 0 0))) 1 (some (r 2 0 0))) 2 (some (r 3 0 0))) r vx) rfl dX2_dropOldest_27 (fun H locs hW => ?_)
  refine lv_iinc (v := 4) (lv' := [(2, .int 4), (1, .ref (r 0 0 0)), (0, .ref (as 0))]) hx hb dX2_dropOldest_28 hl (k := 0) rfl (by first | rfl | decide) (by decide) rfl (fun ls hl => ?_)
  refine lv_goto (tgt := 9) hx hb dX2_dropOldest_31 (by decide) ?_
  refine lv_iload_n hx hb dX2_dropOldest_9 rfl (lv_at hl 0 rfl) ?_
  refine lv_iconst (v := 4) hx hb dX2_dropOldest_10 (by decide) ?_
  refine lv_icmp_ge (tgt := 34) hx hb dX2_dropOldest_11 (by decide) (fun c1 => ?_) (fun c1 => absurd (by decide) c1)
  refine lv_aload_n hx hb dX2_dropOldest_34 rfl (lv_at hl 2 rfl) ?_
  refine cr_get C hW.1 0 rfl rfl 0 (by decide) hinX2 k0 (v := .ref (as 1)) rfl dX2_dropOldest_35 ?_
  refine lv_iconst (v := 3) hx hb dX2_dropOldest_38 (by decide) ?_
  refine lv_aload_n hx hb dX2_dropOldest_39 rfl (lv_at hl 1 rfl) ?_
  refine cr_astq C hW 1 2 rfl rfl (k := 3) (by decide) (by decide) (w' := cr_wRf ct as vs (va_up (va_up (va_up (va_up (fun j => some (r j 0 0)) 0 (some (r 1 0 0))) 1 (some (r 2 0 0))) 2 (some (r 3 0 0))) 3 (some (r 0 0 0))) r vx) rfl dX2_dropOldest_40 (fun H locs hW => ?_)
  refine lv_aload_n hx hb dX2_dropOldest_41 rfl (lv_at hl 2 rfl) ?_
  refine lv_iconst (v := 3) hx hb dX2_dropOldest_42 (by decide) ?_
  refine cr_put C hW 0 rfl rfl tyX2 tyX2_ok nmX2 1 (by decide) hinX2 k1 rfl rfl rfl rfl (Nat.le_of_ble_eq_true rfl) (w' := cr_wRf ct as (cr_i vs 1 3) (va_up (va_up (va_up (va_up (fun j => some (r j 0 0)) 0 (some (r 1 0 0))) 1 (some (r 2 0 0))) 2 (some (r 3 0 0))) 3 (some (r 0 0 0))) r vx) rfl dX2_dropOldest_43 (fun H locs hW => ?_)
  have hW := hW.refs (q0 := 1) (g := fun j => some (cr_rot r j 0 0)) (w' := cr_wRf ct as (cr_i vs 1 3) (fun j => some (cr_rot r j 0 0)) r vx) rfl (fun j hj => by rcases (show j = 0 ∨ j = 1 ∨ j = 2 ∨ j = 3 by omega) with rfl | rfl | rfl | rfl <;> rfl) rfl
  have hW := hW.perm (w' := cr_wR ct as (cr_i vs 1 3) (cr_rot r) (cr_rot vx)) (cr_blk (n := 5) (Ls := [cr_wR0 ct as (cr_i vs 1 3) (cr_rot r), cr_wH ct (r 0 0) (r 0 1) (r 0 2) (vx 0 0) (vx 0 1) (vx 0 2), cr_wH ct (r 1 0) (r 1 1) (r 1 2) (vx 1 0) (vx 1 1) (vx 1 2), cr_wH ct (r 2 0) (r 2 1) (r 2 2) (vx 2 0) (vx 2 1) (vx 2 2), cr_wH ct (r 3 0) (r 3 1) (r 3 2) (vx 3 0) (vx 3 1) (vx 3 2)]) [0, 2, 3, 4, 1] rfl (by decide))
  exact cr_retV C (w := (fun u : (Nat → Nat → Nat → Nat) × cr_V × (Nat → Nat → cr_V) => cr_wR ct as u.2.1 u.1 u.2.2)) (cr_rot r, cr_i vs 1 3, cr_rot vx) hW (Option.some.inj hE) dX2_dropOldest_46
set_option maxHeartbeats 4000000 in
set_option maxRecDepth 100000 in
theorem m_X2_record (L : Launch) (D : va_G) (ct : Nat → ClassId) (as : Nat → Nat) (ah al ak : Nat → Nat) (r : Nat → Nat → Nat → Nat) (vs : cr_V) (vx : Nat → Nat → cr_V) (vh vl vk : cr_V) (sz : Nat) (out : cr_V × (Nat → Nat → cr_V)) (hE : f_X2_record vs vx vh vl vk = some out) : Met L yX2_record wsX2_record ({ frames := 2, cells := 0, slots := 0, locals := 44 } : Room) (cr_pW D ct (cr_wR ct as vs r vx ++ cr_wH ct ah al ak vh vl vk) sz [.ref (as 0), .ref (ah 0)]) (cr_QV D (cr_wR ct as vs r vx ++ cr_wH ct ah al ak vh vl vk) sz (fun u : (Nat → Nat → Nat → Nat) × cr_V × (Nat → Nat → cr_V) => u.2 = out) (fun u : (Nat → Nat → Nat → Nat) × cr_V × (Nat → Nat → cr_V) => cr_wR ct as u.2.1 u.1 u.2.2 ++ cr_wH ct ah al ak vh vl vk)) 0 0 (va_A (cr_wR ct as vs r vx ++ cr_wH ct ah al ak vh vl vk) sz) := by
  have k0 : (Cond.fieldLink RX2 11 "CupReceipts$History" "rooms" "[LCupReceipts$House;") ∈ wsX2_record := List.mem_of_getElem? (i := 2) rfl
  have k1 : (Cond.fieldLink RX2 18 "CupReceipts$History" "states" "I") ∈ wsX2_record := List.mem_of_getElem? (i := 1) rfl
  have hinX2 : ∀ w ∈ wsX20, w ∈ wsX2_record := fun w h => List.mem_cons_of_mem _ (List.mem_append_left _ (List.mem_append_left _ (List.mem_append_left _ (List.mem_append_right _ h))))
  refine cr_metW (Qc := fun A => va_Qv (fun u : (Nat → Nat → Nat → Nat) × cr_V × (Nat → Nat → cr_V) => u.2 = out) (fun u t => cr_at D A ((fun u : (Nat → Nat → Nat → Nat) × cr_V × (Nat → Nat → cr_V) => cr_wR ct as u.2.1 u.1 u.2.2 ++ cr_wH ct ah al ak vh vl vk) u) t) A) (by decide) rfl rfl (Nat.le_of_ble_eq_true rfl) ?_
  intro p e s m args below meth c ls A C hW hl
  obtain ⟨hx, hb, hml, hown, hts, hr, hlocks, hK, hN⟩ := id C
  have hl : lv_has ls 2 [(0, .ref (as 0)), (1, .ref (ah 0))] := hl
  have n12 : ∀ (vs : cr_V) (vx : Nat → Nat → cr_V) (r : Nat → Nat → Nat → Nat) (hE : f_X2_record_12 vs vx vh vl vk = some out) (H : Heap) (locs : List Loc) (hW : cr_wd D A s (cr_wR ct as vs r vx ++ cr_wH ct ah al ak vh vl vk) H locs), W p L e ({ frames := 2, cells := 0, slots := 0, locals := 44 } : Room) s m args below meth c H locs 0 0 (MQ below (va_Qv (fun u : (Nat → Nat → Nat → Nat) × cr_V × (Nat → Nat → cr_V) => u.2 = out) (fun u t => cr_at D A ((fun u : (Nat → Nat → Nat → Nat) × cr_V × (Nat → Nat → cr_V) => cr_wR ct as u.2.1 u.1 u.2.2 ++ cr_wH ct ah al ak vh vl vk) u) t) A) args s 0 0 A) (F0 m 12 ls []) := by
    intro vs vx r hE H locs hW
    obtain ⟨hi, hE⟩ := cr_ifn hE
    obtain ⟨k, hk4, hk⟩ : ∃ k, k < 4 ∧ cr_x (vs 1 0) = k := ⟨_, by have h := cr_in_of hi; rw [← cr_xe]; exact Nat.not_le.mp fun q => h (Or.inr q), rfl⟩
    rw [hk] at hE
    refine lv_aload_n hx hb dX2_record_12 rfl (lv_at hl 0 rfl) ?_
    refine cr_get C hW.1 0 rfl rfl 0 (by decide) hinX2 k0 (v := .ref (as 1)) rfl dX2_record_13 ?_
    refine lv_aload_n hx hb dX2_record_16 rfl (lv_at hl 0 rfl) ?_
    refine cr_get C hW.1 0 rfl rfl 1 (by decide) hinX2 k1 (v := .int (vs 1 0)) rfl dX2_record_17 ?_
    refine cr_aldq C hW.1 1 (k := k) (v := r k 0 0) rfl hi ((cr_xe _).trans hk) rfl dX2_record_20 ?_
    refine lv_aload_n hx hb dX2_record_21 rfl (lv_at hl 1 rfl) ?_
    obtain ⟨q, hq, hE⟩ := cr_bind hE
    rcases (show k = 0 ∨ k = 1 ∨ k = 2 ∨ k = 3 by omega) with rfl | rfl | rfl | rfl
    · refine cr_vVB (nb := 6) (n := 1) (As := [.ref (ah 0)]) (rest := []) C hW (m_X3_copyFrom L D ct (r 0 0) (r 0 1) (r 0 2) ah al ak (vx 0 0) (vx 0 1) (vx 0 2) vh vl vk _ q hq) (cwV 1 hts gX2_record_X3_copyFrom rfl rfl rfl (by decide +kernel) ⟨Nat.le_of_ble_eq_true rfl, Nat.le_of_ble_eq_true rfl⟩) [1, 5] [0, 2, 3, 4] [cr_wR0 ct as vs r, cr_wH ct (r 0 0) (r 0 1) (r 0 2) (vx 0 0) (vx 0 1) (vx 0 2), cr_wH ct (r 1 0) (r 1 1) (r 1 2) (vx 1 0) (vx 1 1) (vx 1 2), cr_wH ct (r 2 0) (r 2 1) (r 2 2) (vx 2 0) (vx 2 1) (vx 2 2), cr_wH ct (r 3 0) (r 3 1) (r 3 2) (vx 3 0) (vx 3 1) (vx 3 2), cr_wH ct ah al ak vh vl vk] (cr_wR ct as vs r (cr_setR vx 0 q.1 q.2.1 q.2.2) ++ cr_wH ct ah al ak vh vl vk) [cr_wR0 ct as vs r, cr_wH ct (r 0 0) (r 0 1) (r 0 2) q.1 q.2.1 q.2.2, cr_wH ct (r 1 0) (r 1 1) (r 1 2) (vx 1 0) (vx 1 1) (vx 1 2), cr_wH ct (r 2 0) (r 2 1) (r 2 2) (vx 2 0) (vx 2 1) (vx 2 2), cr_wH ct (r 3 0) (r 3 1) (r 3 2) (vx 3 0) (vx 3 1) (vx 3 2), cr_wH ct ah al ak vh vl vk] ⟨rfl, rfl⟩ ⟨rfl, rfl⟩ rfl rfl rfl (by decide) 2 rfl rfl rfl hl.1 rfl (Nat.le_of_ble_eq_true rfl) dX2_record_22 ⟨Nat.zero_le _, Nat.zero_le _⟩ (fun H locs hW => ?_)
      refine lv_aload_n hx hb dX2_record_25 rfl (lv_at hl 0 rfl) ?_
      refine lv_dup hx hb dX2_record_26 rfl ?_
      refine cr_get C hW.1 0 rfl rfl 1 (by decide) hinX2 k1 (v := .int (vs 1 0)) rfl dX2_record_27 ?_
      refine lv_iconst (v := 1) hx hb dX2_record_30 (by decide) ?_
      refine lv_iadd hx hb dX2_record_31 ?_
      refine cr_put C hW 0 rfl rfl tyX2 tyX2_ok nmX2 1 (by decide) hinX2 k1 rfl rfl rfl rfl (Nat.le_of_ble_eq_true rfl) (w' := cr_wR ct as (cr_i vs 1 ((vs 1 0) + 1)) r (cr_setR vx 0 q.1 q.2.1 q.2.2) ++ cr_wH ct ah al ak vh vl vk) rfl dX2_record_32 (fun H locs hW => ?_)
      exact cr_retV C (w := (fun u : (Nat → Nat → Nat → Nat) × cr_V × (Nat → Nat → cr_V) => cr_wR ct as u.2.1 u.1 u.2.2 ++ cr_wH ct ah al ak vh vl vk)) (r, cr_i vs 1 ((vs 1 0) + 1), cr_setR vx 0 q.1 q.2.1 q.2.2) hW (Option.some.inj hE) dX2_record_35
    · refine cr_vVB (nb := 6) (n := 1) (As := [.ref (ah 0)]) (rest := []) C hW (m_X3_copyFrom L D ct (r 1 0) (r 1 1) (r 1 2) ah al ak (vx 1 0) (vx 1 1) (vx 1 2) vh vl vk _ q hq) (cwV 1 hts gX2_record_X3_copyFrom rfl rfl rfl (by decide +kernel) ⟨Nat.le_of_ble_eq_true rfl, Nat.le_of_ble_eq_true rfl⟩) [2, 5] [0, 1, 3, 4] [cr_wR0 ct as vs r, cr_wH ct (r 0 0) (r 0 1) (r 0 2) (vx 0 0) (vx 0 1) (vx 0 2), cr_wH ct (r 1 0) (r 1 1) (r 1 2) (vx 1 0) (vx 1 1) (vx 1 2), cr_wH ct (r 2 0) (r 2 1) (r 2 2) (vx 2 0) (vx 2 1) (vx 2 2), cr_wH ct (r 3 0) (r 3 1) (r 3 2) (vx 3 0) (vx 3 1) (vx 3 2), cr_wH ct ah al ak vh vl vk] (cr_wR ct as vs r (cr_setR vx 1 q.1 q.2.1 q.2.2) ++ cr_wH ct ah al ak vh vl vk) [cr_wR0 ct as vs r, cr_wH ct (r 0 0) (r 0 1) (r 0 2) (vx 0 0) (vx 0 1) (vx 0 2), cr_wH ct (r 1 0) (r 1 1) (r 1 2) q.1 q.2.1 q.2.2, cr_wH ct (r 2 0) (r 2 1) (r 2 2) (vx 2 0) (vx 2 1) (vx 2 2), cr_wH ct (r 3 0) (r 3 1) (r 3 2) (vx 3 0) (vx 3 1) (vx 3 2), cr_wH ct ah al ak vh vl vk] ⟨rfl, rfl⟩ ⟨rfl, rfl⟩ rfl rfl rfl (by decide) 13 rfl rfl rfl hl.1 rfl (Nat.le_of_ble_eq_true rfl) dX2_record_22 ⟨Nat.zero_le _, Nat.zero_le _⟩ (fun H locs hW => ?_)
      refine lv_aload_n hx hb dX2_record_25 rfl (lv_at hl 0 rfl) ?_
      refine lv_dup hx hb dX2_record_26 rfl ?_
      refine cr_get C hW.1 0 rfl rfl 1 (by decide) hinX2 k1 (v := .int (vs 1 0)) rfl dX2_record_27 ?_
      refine lv_iconst (v := 1) hx hb dX2_record_30 (by decide) ?_
      refine lv_iadd hx hb dX2_record_31 ?_
      refine cr_put C hW 0 rfl rfl tyX2 tyX2_ok nmX2 1 (by decide) hinX2 k1 rfl rfl rfl rfl (Nat.le_of_ble_eq_true rfl) (w' := cr_wR ct as (cr_i vs 1 ((vs 1 0) + 1)) r (cr_setR vx 1 q.1 q.2.1 q.2.2) ++ cr_wH ct ah al ak vh vl vk) rfl dX2_record_32 (fun H locs hW => ?_)
      exact cr_retV C (w := (fun u : (Nat → Nat → Nat → Nat) × cr_V × (Nat → Nat → cr_V) => cr_wR ct as u.2.1 u.1 u.2.2 ++ cr_wH ct ah al ak vh vl vk)) (r, cr_i vs 1 ((vs 1 0) + 1), cr_setR vx 1 q.1 q.2.1 q.2.2) hW (Option.some.inj hE) dX2_record_35
    · refine cr_vVB (nb := 6) (n := 1) (As := [.ref (ah 0)]) (rest := []) C hW (m_X3_copyFrom L D ct (r 2 0) (r 2 1) (r 2 2) ah al ak (vx 2 0) (vx 2 1) (vx 2 2) vh vl vk _ q hq) (cwV 1 hts gX2_record_X3_copyFrom rfl rfl rfl (by decide +kernel) ⟨Nat.le_of_ble_eq_true rfl, Nat.le_of_ble_eq_true rfl⟩) [3, 5] [0, 1, 2, 4] [cr_wR0 ct as vs r, cr_wH ct (r 0 0) (r 0 1) (r 0 2) (vx 0 0) (vx 0 1) (vx 0 2), cr_wH ct (r 1 0) (r 1 1) (r 1 2) (vx 1 0) (vx 1 1) (vx 1 2), cr_wH ct (r 2 0) (r 2 1) (r 2 2) (vx 2 0) (vx 2 1) (vx 2 2), cr_wH ct (r 3 0) (r 3 1) (r 3 2) (vx 3 0) (vx 3 1) (vx 3 2), cr_wH ct ah al ak vh vl vk] (cr_wR ct as vs r (cr_setR vx 2 q.1 q.2.1 q.2.2) ++ cr_wH ct ah al ak vh vl vk) [cr_wR0 ct as vs r, cr_wH ct (r 0 0) (r 0 1) (r 0 2) (vx 0 0) (vx 0 1) (vx 0 2), cr_wH ct (r 1 0) (r 1 1) (r 1 2) (vx 1 0) (vx 1 1) (vx 1 2), cr_wH ct (r 2 0) (r 2 1) (r 2 2) q.1 q.2.1 q.2.2, cr_wH ct (r 3 0) (r 3 1) (r 3 2) (vx 3 0) (vx 3 1) (vx 3 2), cr_wH ct ah al ak vh vl vk] ⟨rfl, rfl⟩ ⟨rfl, rfl⟩ rfl rfl rfl (by decide) 24 rfl rfl rfl hl.1 rfl (Nat.le_of_ble_eq_true rfl) dX2_record_22 ⟨Nat.zero_le _, Nat.zero_le _⟩ (fun H locs hW => ?_)
      refine lv_aload_n hx hb dX2_record_25 rfl (lv_at hl 0 rfl) ?_
      refine lv_dup hx hb dX2_record_26 rfl ?_
      refine cr_get C hW.1 0 rfl rfl 1 (by decide) hinX2 k1 (v := .int (vs 1 0)) rfl dX2_record_27 ?_
      refine lv_iconst (v := 1) hx hb dX2_record_30 (by decide) ?_
      refine lv_iadd hx hb dX2_record_31 ?_
      refine cr_put C hW 0 rfl rfl tyX2 tyX2_ok nmX2 1 (by decide) hinX2 k1 rfl rfl rfl rfl (Nat.le_of_ble_eq_true rfl) (w' := cr_wR ct as (cr_i vs 1 ((vs 1 0) + 1)) r (cr_setR vx 2 q.1 q.2.1 q.2.2) ++ cr_wH ct ah al ak vh vl vk) rfl dX2_record_32 (fun H locs hW => ?_)
      exact cr_retV C (w := (fun u : (Nat → Nat → Nat → Nat) × cr_V × (Nat → Nat → cr_V) => cr_wR ct as u.2.1 u.1 u.2.2 ++ cr_wH ct ah al ak vh vl vk)) (r, cr_i vs 1 ((vs 1 0) + 1), cr_setR vx 2 q.1 q.2.1 q.2.2) hW (Option.some.inj hE) dX2_record_35
    · refine cr_vVB (nb := 6) (n := 1) (As := [.ref (ah 0)]) (rest := []) C hW (m_X3_copyFrom L D ct (r 3 0) (r 3 1) (r 3 2) ah al ak (vx 3 0) (vx 3 1) (vx 3 2) vh vl vk _ q hq) (cwV 1 hts gX2_record_X3_copyFrom rfl rfl rfl (by decide +kernel) ⟨Nat.le_of_ble_eq_true rfl, Nat.le_of_ble_eq_true rfl⟩) [4, 5] [0, 1, 2, 3] [cr_wR0 ct as vs r, cr_wH ct (r 0 0) (r 0 1) (r 0 2) (vx 0 0) (vx 0 1) (vx 0 2), cr_wH ct (r 1 0) (r 1 1) (r 1 2) (vx 1 0) (vx 1 1) (vx 1 2), cr_wH ct (r 2 0) (r 2 1) (r 2 2) (vx 2 0) (vx 2 1) (vx 2 2), cr_wH ct (r 3 0) (r 3 1) (r 3 2) (vx 3 0) (vx 3 1) (vx 3 2), cr_wH ct ah al ak vh vl vk] (cr_wR ct as vs r (cr_setR vx 3 q.1 q.2.1 q.2.2) ++ cr_wH ct ah al ak vh vl vk) [cr_wR0 ct as vs r, cr_wH ct (r 0 0) (r 0 1) (r 0 2) (vx 0 0) (vx 0 1) (vx 0 2), cr_wH ct (r 1 0) (r 1 1) (r 1 2) (vx 1 0) (vx 1 1) (vx 1 2), cr_wH ct (r 2 0) (r 2 1) (r 2 2) (vx 2 0) (vx 2 1) (vx 2 2), cr_wH ct (r 3 0) (r 3 1) (r 3 2) q.1 q.2.1 q.2.2, cr_wH ct ah al ak vh vl vk] ⟨rfl, rfl⟩ ⟨rfl, rfl⟩ rfl rfl rfl (by decide) 35 rfl rfl rfl hl.1 rfl (Nat.le_of_ble_eq_true rfl) dX2_record_22 ⟨Nat.zero_le _, Nat.zero_le _⟩ (fun H locs hW => ?_)
      refine lv_aload_n hx hb dX2_record_25 rfl (lv_at hl 0 rfl) ?_
      refine lv_dup hx hb dX2_record_26 rfl ?_
      refine cr_get C hW.1 0 rfl rfl 1 (by decide) hinX2 k1 (v := .int (vs 1 0)) rfl dX2_record_27 ?_
      refine lv_iconst (v := 1) hx hb dX2_record_30 (by decide) ?_
      refine lv_iadd hx hb dX2_record_31 ?_
      refine cr_put C hW 0 rfl rfl tyX2 tyX2_ok nmX2 1 (by decide) hinX2 k1 rfl rfl rfl rfl (Nat.le_of_ble_eq_true rfl) (w' := cr_wR ct as (cr_i vs 1 ((vs 1 0) + 1)) r (cr_setR vx 3 q.1 q.2.1 q.2.2) ++ cr_wH ct ah al ak vh vl vk) rfl dX2_record_32 (fun H locs hW => ?_)
      exact cr_retV C (w := (fun u : (Nat → Nat → Nat → Nat) × cr_V × (Nat → Nat → cr_V) => cr_wR ct as u.2.1 u.1 u.2.2 ++ cr_wH ct ah al ak vh vl vk)) (r, cr_i vs 1 ((vs 1 0) + 1), cr_setR vx 3 q.1 q.2.1 q.2.2) hW (Option.some.inj hE) dX2_record_35
  replace hE : (if (vs 1 0) < 4 then f_X2_record_12 vs vx vh vl vk else (f_X2_dropOldest vs vx).bind fun q => f_X2_record_12 q.1 q.2 vh vl vk) = some out := hE
  refine lv_aload_n hx hb dX2_record_0 rfl (lv_at hl 0 rfl) ?_
  refine cr_get C hW.1 0 rfl rfl 1 (by decide) hinX2 k1 (v := .int (vs 1 0)) rfl dX2_record_1 ?_
  refine lv_iconst (v := 4) hx hb dX2_record_4 (by decide) ?_
  refine lv_icmp_lt (tgt := 12) hx hb dX2_record_5 (by decide) (fun c1 => ?_) (fun c1 => ?_)
  · rw [if_pos c1] at hE
    exact n12 vs vx r hE _ _ hW
  · rw [if_neg c1] at hE
    refine lv_aload_n hx hb dX2_record_8 rfl (lv_at hl 0 rfl) ?_
    obtain ⟨q, hq, hE⟩ := cr_bind hE
    refine cr_vVBr (nb := 2) (n := 0) (As := []) (rest := []) C hW (m_X2_dropOldest L D ct as r vs vx _ q hq) (cwV 0 hts gX2_record_X2_dropOldest rfl rfl rfl (by decide +kernel) ⟨Nat.le_of_ble_eq_true rfl, Nat.le_of_ble_eq_true rfl⟩) [0] [1] [cr_wR ct as vs r vx, cr_wH ct ah al ak vh vl vk] (fun r => cr_wR ct as q.1 r q.2 ++ cr_wH ct ah al ak vh vl vk) (fun r => [cr_wR ct as q.1 r q.2, cr_wH ct ah al ak vh vl vk]) ⟨rfl, rfl⟩ (fun _ => ⟨rfl, rfl⟩) rfl (fun _ => rfl) (fun _ => rfl) (by decide) 0 rfl rfl rfl hl.1 rfl (Nat.le_of_ble_eq_true rfl) dX2_record_9 ⟨Nat.zero_le _, Nat.zero_le _⟩ (fun r H locs hW => ?_)
    exact n12 q.1 q.2 r hE _ _ hW
