/-! calls in a growing world -/
abbrev CwI (own : String) (idx : Nat) (y : MethodName) (bz : ByteArray) (mz n : Nat) : Prop := CwB own idx y bz mz none n ∧ y.name = "<init>" ∧ Cond.instanceMethod y ∈ TB
abbrev CwIN (own : String) (idx : Nat) (y : MethodName) (bz : ByteArray) (mz n : Nat) (host : String) : Prop :=
  Cond.methodLinkNest own idx y host ∈ NW ∧ Cond.code y bz mz none ∈ TB ∧ Cond.initialized y.cls ∈ TB ∧ (y.cls ≠ "java/lang/invoke/MethodHandle" ∧ y.cls ≠ "java/lang/invoke/VarHandle" ∧ (parseMethodDescriptor y.desc).map (fun d => d.parameters.length) = some n) ∧ mz ≤ 40 ∧ y.name = "<init>" ∧ Cond.instanceMethod y ∈ TB
theorem room_of {R rm : Room} {k k1 mz : Nat} (hf : k ≤ R.frames) (hlo : 60 * k ≤ R.locals) (h1 : rm.frames = k1) (h2 : rm.locals = 60 * k1) (hk : k1 + 1 ≤ k) (hm : mz ≤ 40) : rm.frames + 1 ≤ R.frames ∧ 8 + (mz + 11) + rm.locals ≤ R.locals := by
  rw [h1, h2]
  exact ⟨by omega, by omega⟩
section GNC
variable {o : Om} {D : va_G} {tys : List (ClassId × FieldType)} {own : String} {cc : ByteArray} {k nK mc ms nc ns : Nat} {w : va_W} {pc : Nat} {lv : List (Nat × Value)} {st stk : List Value} {y x : MethodName} {bz : ByteArray} {mz idx k1 b mc1 ms1 : Nat} {rz : Option FieldType} {As : List Value} {C1 host : String}
theorem n_callI (C : Cn o D tys own cc k nK mc ms) {S : Type} {post : S → Prop} {w' : S → va_W} {wc wr : va_W} (hM : ∀ l, MC l D tys y bz mz k1 mc1 ms1 (.ref b :: As) wc post w') (cwz : CwI own idx y bz mz As.length) (isC isR : List Nat) (hC : isC.map (fun i => w[i]?) = wc.map some) (hC2 : isC.filterMap (fun i => w[i]?) = wc) (hnC : va_nd isC = true) (hR : isR.map (fun i => w[i]?) = wr.map some) (hn : va_nd isR = true) (hdis : ∀ i ∈ isR, i ∉ isC)
    (hk : k1 + 1 ≤ k) (h1 : nc + mc1 ≤ mc) (h2 : ns + ms1 ≤ ms) (hstk : stk = As.reverse ++ .ref b :: st) (hst : (st.map fun v => v.category).sum ≤ 8) (d : decode cc pc = .ok (.invokespecial idx, 3)) (K : ∀ u : S, post u → Gn o D (nc + mc1) (ns + ms1) (wr ++ w' u) (pc + 3) lv st) : Gn o D nc ns w pc lv stk := by
  obtain ⟨p, l, e, R, s, m, args, below, meth, c, A, Q, nL⟩ := o
  obtain ⟨hx, hb, hml, hn', hown, hts, hK, hA, hN, hf, hlo, hce, hsl⟩ := C
  obtain ⟨⟨w1, w2, w3, w4, w5⟩, w6, w7⟩ := cwz
  subst hstk
  intro H locs ls hP hD hS hl
  have hPc := hP.sub isC hC2
  have hDc := hD.sub isC hnC hC
  have hFc := va_free (wc := wc) hD hS hA isC hC
  refine va_callv (va_runI (As := As) (rest := st) ⟨hx, hb, hml, hown, hts⟩ (hM l H.size) ⟨callB_of As.length hts (gTB w2) rfl rfl rfl (hts _ w3) (hts _ w1) w4 (room_of hf hlo rfl rfl hk w5), w6, hts _ w7⟩ ⟨Inw.blind, fun U hU hW => ⟨rfl, Inw.pre (wf := fun _ => wc) (f := fun _ _ => 0) hPc hK (hDc.weaken (fun _ _ _ _ => trivial)) hN hU hW⟩⟩ rfl rfl hl.1 rfl (lv_room hst) d ⟨Nat.le_trans h1 hce, Nat.le_trans h2 hsl⟩) hS (fun q _ h => hFc q h) hFc (fun u t H1 locs1 ht hvm hw hB hz1 hk1 hS1 => ?_)
  obtain ⟨hP1, hD1⟩ := hB
  rw [ht] at hP1
  obtain ⟨hP2, hD2⟩ := va_join hP hD isC isR hC hR hn hdis hk1 hFc hP1 hD1
  exact K u hw H1 locs1 ls hP2 hD2 hS1 hl
theorem n_callIN (C : Cn o D tys own cc k nK mc ms) {S : Type} {post : S → Prop} {w' : S → va_W} {wc wr : va_W} (hM : ∀ l, MC l D tys y bz mz k1 mc1 ms1 (.ref b :: As) wc post w') (cwz : CwIN own idx y bz mz As.length host) (isC isR : List Nat) (hC : isC.map (fun i => w[i]?) = wc.map some) (hC2 : isC.filterMap (fun i => w[i]?) = wc) (hnC : va_nd isC = true) (hR : isR.map (fun i => w[i]?) = wr.map some) (hn : va_nd isR = true) (hdis : ∀ i ∈ isR, i ∉ isC)
    (hk : k1 + 1 ≤ k) (h1 : nc + mc1 ≤ mc) (h2 : ns + ms1 ≤ ms) (hstk : stk = As.reverse ++ .ref b :: st) (hst : (st.map fun v => v.category).sum ≤ 8) (d : decode cc pc = .ok (.invokespecial idx, 3)) (K : ∀ u : S, post u → Gn o D (nc + mc1) (ns + ms1) (wr ++ w' u) (pc + 3) lv st) : Gn o D nc ns w pc lv stk := by
  obtain ⟨p, l, e, R, s, m, args, below, meth, c, A, Q, nL⟩ := o
  obtain ⟨hx, hb, hml, hn', hown, hts, hK, hA, hN, hf, hlo, hce, hsl⟩ := C
  obtain ⟨w1, w2, w3, w4, w5, w6, w7⟩ := cwz
  subst hstk
  intro H locs ls hP hD hS hl
  have hPc := hP.sub isC hC2
  have hDc := hD.sub isC hnC hC
  have hFc := va_free (wc := wc) hD hS hA isC hC
  refine va_callv (va_runIN (As := As) (rest := st) ⟨hx, hb, hml, hown, hts⟩ (hM l H.size) ⟨va_cnB As.length hts (gTB w2) rfl rfl rfl (hN _ w1) (hts _ w3) w4 (room_of hf hlo rfl rfl hk w5), w6, hts _ w7⟩ ⟨Inw.blind, fun U hU hW => ⟨rfl, Inw.pre (wf := fun _ => wc) (f := fun _ _ => 0) hPc hK (hDc.weaken (fun _ _ _ _ => trivial)) hN hU hW⟩⟩ rfl rfl hl.1 rfl (lv_room hst) d ⟨Nat.le_trans h1 hce, Nat.le_trans h2 hsl⟩) hS (fun q _ h => hFc q h) hFc (fun u t H1 locs1 ht hvm hw hB hz1 hk1 hS1 => ?_)
  obtain ⟨hP1, hD1⟩ := hB
  rw [ht] at hP1
  obtain ⟨hP2, hD2⟩ := va_join hP hD isC isR hC hR hn hdis hk1 hFc hP1 hD1
  exact K u hw H1 locs1 ls hP2 hD2 hS1 hl
/-- a method of a fixed world, called where that world is some of the cells -/
theorem n_callVv (C : Cn o D tys own cc k nK mc ms) {wf : Sg → va_W} (F : Fix wf) {f : Sg} {Qf : Sg → Prop} {wr : va_W} (hM : ∀ l, MV l D tys wf y bz mz k1 (.ref b :: As) f Qf) (cwz : CwV own idx y bz mz none As.length C1) {ci q : Nat} {T : u_T} {N : Nat} {fs : List Value} (hc : vwCl[ci]? = some (C1, T, N)) (he : (wf f)[q]? = some (b, .inr (ci, fs))) (isC isR : List Nat) (hC : isC.map (fun i => w[i]?) = (wf f).map some) (hC2 : isC.filterMap (fun i => w[i]?) = wf f) (hnC : va_nd isC = true) (hR : isR.map (fun i => w[i]?) = wr.map some) (hn : va_nd isR = true) (hdis : ∀ i ∈ isR, i ∉ isC)
    (hk : k1 + 1 ≤ k) (h1 : nc ≤ mc) (h2 : ns ≤ ms) (hstk : stk = As.reverse ++ .ref b :: st) (hst : (st.map fun v => v.category).sum ≤ 8) (d : decode cc pc = .ok (.invokevirtual idx, 3)) (K : ∀ g : Sg, Qf g → Gn o D nc ns (wr ++ wf g) (pc + 3) lv st) : Gn o D nc ns w pc lv stk := by
  obtain ⟨p, l, e, R, s, m, args, below, meth, c, A, Q, nL⟩ := o
  obtain ⟨hx, hb, hml, hn', hown, hts, hK, hA, hN, hf, hlo, hce, hsl⟩ := C
  obtain ⟨⟨w1, w2, w3, w4, w5⟩, w6, w7⟩ := cwz
  subst hstk
  intro H locs ls hP hD hS hl
  have hPc := hP.sub isC hC2
  have hDc := hD.sub isC hnC hC
  have hFc := va_free (wc := wf f) hD hS hA isC hC
  refine va_callv (va_runV (As := As) (rest := st) ⟨hx, hb, hml, hown, hts⟩ (hM l H.size) ⟨callB_of As.length hts (gTB w2) rfl rfl rfl (hts _ w3) (hts _ w1) w4 (room_of hf hlo rfl rfl hk w5), hts _ w6, hts _ w7⟩ ⟨Inw.blind, va_recv hK hPc hc he, fun U hU hW => ⟨rfl, Inw.pre hPc hK (hDc.weaken (fun _ _ _ _ => trivial)) hN hU hW⟩⟩ rfl rfl hl.1 rfl (lv_room hst) d ⟨Nat.le_trans h1 hce, Nat.le_trans h2 hsl⟩) hS (fun q _ h => hFc q h) hFc (fun g t H1 locs1 ht hvm hw hB hz1 hk1 hS1 => ?_)
  have hP1 : va_P D vwCl (wf g) H1 := by rw [← ht]; exact hB
  obtain ⟨hP2, hD2⟩ := va_join hP hD isC isR hC hR hn hdis hk1 hFc hP1 (F.D hDc.self g)
  exact K g hw H1 locs1 ls hP2 hD2 hS1 hl
theorem n_callVi (C : Cn o D tys own cc k nK mc ms) {wf : Sg → va_W} (F : Fix wf) {f : Sg} {Qf : Int32 → Sg → Prop} {wr : va_W} (hM : ∀ l, MI l D tys wf y bz mz rz k1 (.ref b :: As) f Qf) (cwz : CwV own idx y bz mz rz As.length C1) {ci q : Nat} {T : u_T} {N : Nat} {fs : List Value} (hc : vwCl[ci]? = some (C1, T, N)) (he : (wf f)[q]? = some (b, .inr (ci, fs))) (isC isR : List Nat) (hC : isC.map (fun i => w[i]?) = (wf f).map some) (hC2 : isC.filterMap (fun i => w[i]?) = wf f) (hnC : va_nd isC = true) (hR : isR.map (fun i => w[i]?) = wr.map some) (hn : va_nd isR = true) (hdis : ∀ i ∈ isR, i ∉ isC)
    (hk : k1 + 1 ≤ k) (h1 : nc ≤ mc) (h2 : ns ≤ ms) (hstk : stk = As.reverse ++ .ref b :: st) (hst : (st.map fun v => v.category).sum ≤ 8) (d : decode cc pc = .ok (.invokevirtual idx, 3)) (K : ∀ (r : Int32) (g : Sg), Qf r g → Gn o D nc ns (wr ++ wf g) (pc + 3) lv (.int r :: st)) : Gn o D nc ns w pc lv stk := by
  obtain ⟨p, l, e, R, s, m, args, below, meth, c, A, Q, nL⟩ := o
  obtain ⟨hx, hb, hml, hn', hown, hts, hK, hA, hN, hf, hlo, hce, hsl⟩ := C
  obtain ⟨⟨w1, w2, w3, w4, w5⟩, w6, w7⟩ := cwz
  subst hstk
  intro H locs ls hP hD hS hl
  have hPc := hP.sub isC hC2
  have hDc := hD.sub isC hnC hC
  have hFc := va_free (wc := wf f) hD hS hA isC hC
  refine va_calli (va_runV (As := As) (rest := st) ⟨hx, hb, hml, hown, hts⟩ (hM l H.size) ⟨callB_of As.length hts (gTB w2) rfl rfl rfl (hts _ w3) (hts _ w1) w4 (room_of hf hlo rfl rfl hk w5), hts _ w6, hts _ w7⟩ ⟨Inw.blind, va_recv hK hPc hc he, fun U hU hW => ⟨rfl, Inw.pre hPc hK (hDc.weaken (fun _ _ _ _ => trivial)) hN hU hW⟩⟩ rfl rfl hl.1 rfl (lv_room hst) d ⟨Nat.le_trans h1 hce, Nat.le_trans h2 hsl⟩) hS (fun q _ h => hFc q h) hFc (fun r g t H1 locs1 ht hvm hw hB hz1 hk1 hS1 => ?_)
  have hP1 : va_P D vwCl (wf g) H1 := by rw [← ht]; exact hB
  obtain ⟨hP2, hD2⟩ := va_join hP hD isC isR hC hR hn hdis hk1 hFc hP1 (F.D hDc.self g)
  exact K r g hw H1 locs1 ls hP2 hD2 hS1 hl
/-- the script -/
def Sx (o : Om) (b L : Nat) (xs : Nat → Int32) : Prop := match o with
  | (_, _, _, _, s, _, _, _, _, _, A, _, _) => va_X b L xs s s.heap ∧ b < s.heap.size ∧ ¬ A b
theorem n_sld (C : Cn o D tys own cc k nK mc ms) {L : Nat} {xs : Nat → Int32} (X : Sx o b L xs) {i : Int32} (hin : vp_in i L) (d : decode cc pc = .ok (.iaload, 1)) (K : Gn o D nc ns w (pc + 1) lv (.int (xs i.toNatClampNeg) :: st)) : Gn o D nc ns w pc lv (.int i :: .ref b :: st) := by
  obtain ⟨p, l, e, R, s, m, args, below, meth, c, A, Q, nL⟩ := o
  intro H locs ls hP hD hS hl
  exact va_sld C.1 C.2.1 X.1 X.2.1 X.2.2 hS hin d (K H locs ls hP hD hS hl)
theorem n_slen (C : Cn o D tys own cc k nK mc ms) {L : Nat} {xs : Nat → Int32} (X : Sx o b L xs) (d : decode cc pc = .ok (.arraylength, 1)) (K : Gn o D nc ns w (pc + 1) lv (.int (Int32.ofNat L) :: st)) : Gn o D nc ns w pc lv (.ref b :: st) := by
  obtain ⟨p, l, e, R, s, m, args, below, meth, c, A, Q, nL⟩ := o
  intro H locs ls hP hD hS hl
  exact va_slen C.1 C.2.1 X.1 X.2.1 X.2.2 hS d (K H locs ls hP hD hS hl)
end GNC
