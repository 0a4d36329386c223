section PMB
variable {p : Program} {l : Launch} {e : Env} {R : Room} {s : State} {m : MethodId} {args : Array Value} {below : List Frame} {meth : Method} {c : Code} {H : Heap} {locs : List Loc} {cells slots : Nat} {Q : State → Prop}
variable {cc : ByteArray} {i pc pc' len : Nat} {ls : Array Slot} {st st' : List Value} {ins : Instr} {D : va_G} {dA : Nat → ClassId} {B : Nat} {scr : Cell} {h h' : pm_H}
set_option maxHeartbeats 4000000 in
theorem pm_sB_ok (hx : p.tables.exec = Jvm.exec) (hb : c.code = cc) (hd : decode cc pc = .ok (ins, len)) (hlen : pm_len ins len = true) (hs : pm_sB i ins pc st h = some (pc', st', h')) (hown : s.vm.findClass (pm_nm (pm_own i)) = some m.cls) (hini : pm_kd i = 2 → meth.name = "<init>")
    (hts : ∀ w ∈ lw_tbl, goodWord w = true → w.before args s = true) (hK : pm_K D dA scr s) (hR : pm_R D dA B scr h H) (hlocs : ∀ q ∈ locs, B ≤ q.base) (hsz : ls.size = c.maxLocals) (hfr : 1 ≤ R.frames) (hlo : 20 ≤ R.locals) (hcells : cells + (h'.1 - h.1) ≤ R.cells) (hslots : slots + (h'.2.1 - h.2.1) ≤ R.slots)
    (k : ∀ (H' : Heap) (locs' : List Loc), pm_R D dA B scr h' H' → (∀ q ∈ locs', B ≤ q.base) → W p l e R s m args below meth c H' locs' (cells + (h'.1 - h.1)) (slots + (h'.2.1 - h.2.1)) Q (F0 m pc' ls st')) : W p l e R s m args below meth c H locs cells slots Q (F0 m pc ls st) := by
  have hgw : ∀ w ∈ pm_gw, w.before args s = true := fun w hw => hts w (List.mem_filter.mp hw).1 (List.mem_filter.mp hw).2
  cases ins
  case ldc idx =>
    simp only [pm_len, beq_iff_eq] at hlen; subst hlen; simp only [pm_sB] at hs
    obtain ⟨v, h1, h2⟩ := Option.map_eq_some_iff.mp hs
    cases h2
    have hm := pm_look h1
    have hk := List.all_eq_true.mp pm_kc_ok _ hm
    simp only [decide_eq_true_eq] at hk
    obtain ⟨e1, e2⟩ := pm_key_ok hk
    have hw := pm_wk_all _ hm
    simp only [e1, e2] at hw
    have kk := k H locs hR hlocs
    simp only [Nat.sub_self, Nat.add_zero] at kk
    exact lv_ldc hx hb hown (hts _ hw rfl) hd kk
  case ldc_w idx =>
    simp only [pm_len, beq_iff_eq] at hlen; subst hlen; simp only [pm_sB] at hs
    obtain ⟨v, h1, h2⟩ := Option.map_eq_some_iff.mp hs
    cases h2
    have hm := pm_look h1
    have hk := List.all_eq_true.mp pm_kc_ok _ hm
    simp only [decide_eq_true_eq] at hk
    obtain ⟨e1, e2⟩ := pm_key_ok hk
    have hw := pm_wk_all _ hm
    simp only [e1, e2] at hw
    have kk := k H locs hR hlocs
    simp only [Nat.sub_self, Nat.add_zero] at kk
    exact lv_ldcw hx hb hown (hts _ hw rfl) hd kk
  case ldc2_w idx =>
    simp only [pm_len, beq_iff_eq] at hlen; subst hlen; simp only [pm_sB] at hs
    obtain ⟨v, h1, h2⟩ := Option.map_eq_some_iff.mp hs
    cases h2
    have hm := pm_look h1
    have hk := List.all_eq_true.mp pm_kl_ok _ hm
    simp only [decide_eq_true_eq] at hk
    obtain ⟨e1, e2⟩ := pm_key_ok hk
    have hw := pm_wl_all _ hm
    simp only [e1, e2] at hw
    have kk := k H locs hR hlocs
    simp only [Nat.sub_self, Nat.add_zero] at kk
    exact lv_ldc2 hx hb hown (hts _ hw rfl) hd kk
  case getfield idx =>
    simp only [pm_len, beq_iff_eq] at hlen; subst hlen; simp only [pm_sB] at hs
    split at hs
    next a r cf kf hf =>
      split at hs
      next c' fs ha =>
        split at hs
        next e0 =>
          subst e0
          obtain ⟨v, h1, h2⟩ := Option.map_eq_some_iff.mp hs
          cases h2
          have hm := pm_look hf
          have hk := List.all_eq_true.mp pm_fl_ok _ hm
          simp only [Bool.and_eq_true, decide_eq_true_eq] at hk
          obtain ⟨⟨k1, k2⟩, k3⟩ := hk
          obtain ⟨e1, e2⟩ := pm_key_ok k3
          have hw := pm_wf_all _ hm
          unfold pm_fw at hw
          simp only [e1, e2] at hw
          have hat := hR.2.2 a
          rw [ha] at hat
          have hP : va_P D pm_cl [(a, .inr (c', fs))] H := fun j q hj => by
            have hz : j < 1 := (List.getElem?_eq_some_iff.mp hj).1
            rw [show j = 0 by omega] at hj
            cases hj
            exact hat.2
          have kk := k H locs hR hlocs
          simp only [Nat.sub_self, Nat.add_zero] at kk
          have hcq := pm_cq_all (pm_clq c') (List.mem_of_getElem? (pm_clq_ok k1))
          exact va_get hx hb hgw (fun w hw => pm_g (hcq.1 w hw) (by unfold u_ws u_lay at hw; obtain ⟨z, -, hz⟩ := List.mem_map.mp hw; rw [← hz]; split <;> rfl)) hown hK.1 hP 0 rfl (pm_clq_ok k1) kf k2 (hts _ hw rfl) (fun x hx => hx) h1 hd kk
        next => cases hs
      next => cases hs
    next => cases hs
  case iaload =>
    simp only [pm_len, beq_iff_eq] at hlen; subst hlen; simp only [pm_sB] at hs
    split at hs
    next x a r =>
      split at hs
      next t n z ha =>
        split at hs
        next e0 =>
          cases hs
          have kk := k H locs hR hlocs
          simp only [Nat.sub_self, Nat.add_zero] at kk
          have hat := hR.2.2 a
          rw [ha] at hat
          have hin := pm_in_ok e0.2
          have hlt : x.toNatClampNeg < n := Nat.not_le.mp fun q => hin (Or.inr q)
          rcases e0.1 with rfl | rfl
          · exact W.iald (v := .int (z x.toNatClampNeg)) hx hb (hat.1 (Nat.le_of_ble_eq_true rfl)).2 ((hK.1.2 0 _ rfl).1 n (fun j => .int (z j))) (fun q => by cases q) (by show ¬ (x < 0 ∨ (arrV _ _ _).slots.size ≤ _); rw [arrV_size]; exact hin) (by show (arrV _ _ _).slots[_]? = _; rw [arrV_read _ _ hlt]) rfl rfl hd kk
          · obtain ⟨-, g1, z', g2, g3, g4⟩ := hat.2 rfl
            have e9 : z = z' := by simpa using g2
            subst e9
            exact W.iald (v := .int (z x.toNatClampNeg)) hx hb g1 hK.2.1 hK.2.2.1 (by rw [g3]; exact hin) (g4 _ hlt) rfl rfl hd kk
        next => cases hs
      next => cases hs
    next => cases hs
  case baload =>
    simp only [pm_len, beq_iff_eq] at hlen; subst hlen; simp only [pm_sB] at hs
    split at hs
    next x a r =>
      split at hs
      next t n z ha =>
        split at hs
        next e0 =>
          cases hs
          have kk := k H locs hR hlocs
          simp only [Nat.sub_self, Nat.add_zero] at kk
          have hat := hR.2.2 a
          rw [ha] at hat
          have hin := pm_in_ok e0.2
          have hlt : x.toNatClampNeg < n := Nat.not_le.mp fun q => hin (Or.inr q)
          obtain ⟨rfl, -⟩ := e0
          exact W.zald (v := .int (z x.toNatClampNeg)) hx hb (hat.1 (Nat.le_of_ble_eq_true rfl)).2 ((hK.1.2 2 _ rfl).1 n (fun j => .int (z j))) (fun q => by cases q) (by show ¬ (x < 0 ∨ (arrV _ _ _).slots.size ≤ _); rw [arrV_size]; exact hin) (by show (arrV _ _ _).slots[_]? = _; rw [arrV_read _ _ hlt]) rfl rfl hd kk
        next => cases hs
      next => cases hs
    next => cases hs
  case laload =>
    simp only [pm_len, beq_iff_eq] at hlen; subst hlen; simp only [pm_sB] at hs
    split at hs
    next x a r =>
      split at hs
      next t n z ha =>
        split at hs
        next e0 =>
          cases hs
          have kk := k H locs hR hlocs
          simp only [Nat.sub_self, Nat.add_zero] at kk
          have hat := hR.2.2 a
          rw [ha] at hat
          have hin := pm_in_ok e0.2
          have hlt : x.toNatClampNeg < n := Nat.not_le.mp fun q => hin (Or.inr q)
          obtain ⟨rfl, -⟩ := e0
          exact W.lald (v := .long (z x.toNatClampNeg)) hx hb (hat.1 (Nat.le_of_ble_eq_true rfl)).2 ((hK.1.2 1 _ rfl).1 n (fun j => .long (z j))) (fun q => by cases q) (by show ¬ (x < 0 ∨ (arrV _ _ _).slots.size ≤ _); rw [arrV_size]; exact hin) (by show (arrV _ _ _).slots[_]? = _; rw [arrV_read _ _ hlt]) rfl rfl hd kk
        next => cases hs
      next => cases hs
    next => cases hs
  case aaload =>
    simp only [pm_len, beq_iff_eq] at hlen; subst hlen; simp only [pm_sB] at hs
    split at hs
    next x a r =>
      split at hs
      next t n z ha =>
        split at hs
        next e0 =>
          cases hs
          have kk := k H locs hR hlocs
          simp only [Nat.sub_self, Nat.add_zero] at kk
          have hat := hR.2.2 a
          rw [ha] at hat
          have hin := pm_in_ok e0.2
          have hlt : x.toNatClampNeg < n := Nat.not_le.mp fun q => hin (Or.inr q)
          rcases e0.1 with rfl | rfl
          · exact W.aald (v := va_rf (z x.toNatClampNeg)) (ty := .array .int) hx hb (hat.1 (Nat.le_of_ble_eq_true rfl)).2 ((hK.1.2 3 _ rfl).1 n (fun j => va_rf (z j))) rfl (fun q => by cases q) (by show ¬ (x < 0 ∨ (arrV _ _ _).slots.size ≤ _); rw [arrV_size]; exact hin) (by show (arrV _ _ _).slots[_]? = _; rw [arrV_read _ _ hlt]) rfl rfl hd kk
          · exact W.aald (v := va_rf (z x.toNatClampNeg)) (ty := .object RX0) hx hb (hat.1 (Nat.le_of_ble_eq_true rfl)).2 ((hK.1.2 4 _ rfl).1 n (fun j => va_rf (z j))) rfl (fun q => by cases q) (by show ¬ (x < 0 ∨ (arrV _ _ _).slots.size ≤ _); rw [arrV_size]; exact hin) (by show (arrV _ _ _).slots[_]? = _; rw [arrV_read _ _ hlt]) rfl rfl hd kk
        next => cases hs
      next => cases hs
    next => cases hs
  case arraylength =>
    simp only [pm_len, beq_iff_eq] at hlen; subst hlen; simp only [pm_sB] at hs
    split at hs
    next a r =>
      split at hs
      next t x ha =>
        split at hs
        next e0 =>
          cases hs
          have kk := k H locs hR hlocs
          simp only [Nat.sub_self, Nat.add_zero] at kk
          have hat := hR.2.2 a
          rw [ha] at hat
          rcases e0 with e0 | rfl
          · obtain ⟨ty, hty⟩ : ∃ ty, (pm_tys dA)[t]? = some (dA t, ty) := by
              rcases (show t = 0 ∨ t = 1 ∨ t = 2 ∨ t = 3 ∨ t = 4 by omega) with rfl | rfl | rfl | rfl | rfl <;> exact ⟨_, rfl⟩
            have hP : va_P D pm_cl [(a, .inl (dA t, x))] H := fun j q hj => by
              have hz : j < 1 := (List.getElem?_eq_some_iff.mp hj).1
              rw [show j = 0 by omega] at hj
              cases hj
              exact (hat.1 e0).2
            exact va_alen hx hb hK.1 hP 0 t rfl hty rfl hd kk
          · obtain ⟨-, g1, z', g2, g3, g4⟩ := hat.2 rfl
            exact W.alen (n := Int32.ofNat x.1) hx hb g1 hK.2.1 (by rw [g3] <;> rfl) rfl rfl hd kk
        next => cases hs
      next => cases hs
    next => cases hs
  case iastore =>
    simp only [pm_len, beq_iff_eq] at hlen; subst hlen; simp only [pm_sB] at hs
    split at hs
    next v x a r =>
      split at hs
      next t n z ha =>
        split at hs
        next e0 =>
          cases hs
          have hat := hR.2.2 a
          rw [ha] at hat
          have hin := pm_in_ok e0.2
          obtain ⟨rfl, -⟩ := e0
          refine W.iast hx hb (hat.1 (Nat.le_of_ble_eq_true rfl)).2 ((hK.1.2 0 _ rfl).1 n (fun j => .int (z j))) (fun q => by cases q) (by show ¬ (x < 0 ∨ (arrV _ _ _).slots.size ≤ _); rw [arrV_size]; exact hin) rfl rfl hd fun H1 e z1 oq => ?_
          have kk := k H1 (locs ++ [⟨a, x.toNatClampNeg⟩]) (pm_sto (dA := dA) (t := 0) (n := n) (f := fun j => .int (z j)) (v := .int v) rfl (by rw [vp_cell_i]; congr 1; funext q; unfold pm_up updV; split <;> rfl) (by decide) hR (hat.1 (Nat.le_of_ble_eq_true rfl)).1 e z1 oq) (pm_locs hlocs (hat.1 (Nat.le_of_ble_eq_true rfl)).1)
          simp only [Nat.sub_self, Nat.add_zero] at kk
          exact kk
        next => cases hs
      next => cases hs
    next => cases hs
  case lastore =>
    simp only [pm_len, beq_iff_eq] at hlen; subst hlen; simp only [pm_sB] at hs
    split at hs
    next v x a r =>
      split at hs
      next t n z ha =>
        split at hs
        next e0 =>
          cases hs
          have hat := hR.2.2 a
          rw [ha] at hat
          have hin := pm_in_ok e0.2
          obtain ⟨rfl, -⟩ := e0
          refine W.last hx hb (hat.1 (Nat.le_of_ble_eq_true rfl)).2 ((hK.1.2 1 _ rfl).1 n (fun j => .long (z j))) (fun q => by cases q) (by show ¬ (x < 0 ∨ (arrV _ _ _).slots.size ≤ _); rw [arrV_size]; exact hin) rfl rfl hd fun H1 e z1 oq => ?_
          have kk := k H1 (locs ++ [⟨a, x.toNatClampNeg⟩]) (pm_sto (dA := dA) (t := 1) (n := n) (f := fun j => .long (z j)) (v := .long v) rfl (by rw [vp_cell_l]; congr 1; funext q; unfold pm_up updV; split <;> rfl) (by decide) hR (hat.1 (Nat.le_of_ble_eq_true rfl)).1 e z1 oq) (pm_locs hlocs (hat.1 (Nat.le_of_ble_eq_true rfl)).1)
          simp only [Nat.sub_self, Nat.add_zero] at kk
          exact kk
        next => cases hs
      next => cases hs
    next => cases hs
  case bastore =>
    simp only [pm_len, beq_iff_eq] at hlen; subst hlen; simp only [pm_sB] at hs
    split at hs
    next v x a r =>
      split at hs
      next t n z ha =>
        split at hs
        next e0 =>
          cases hs
          have hat := hR.2.2 a
          rw [ha] at hat
          have hin := pm_in_ok e0.2.1
          obtain ⟨rfl, -, hv⟩ := e0
          have hnv : narrow .boolean (.int v) = .int v := by rcases hv with rfl | rfl <;> rfl
          refine W.zast hx hb (hat.1 (Nat.le_of_ble_eq_true rfl)).2 ((hK.1.2 2 _ rfl).1 n (fun j => .int (z j))) (fun q => by cases q) (by show ¬ (x < 0 ∨ (arrV _ _ _).slots.size ≤ _); rw [arrV_size]; exact hin) rfl rfl hd fun H1 e z1 oq => ?_
          rw [hnv] at e
          have kk := k H1 (locs ++ [⟨a, x.toNatClampNeg⟩]) (pm_sto (dA := dA) (t := 2) (n := n) (f := fun j => .int (z j)) (v := .int v) rfl (by rw [vp_cell_i]; congr 1; funext q; unfold pm_up updV; split <;> rfl) (by decide) hR (hat.1 (Nat.le_of_ble_eq_true rfl)).1 e z1 oq) (pm_locs hlocs (hat.1 (Nat.le_of_ble_eq_true rfl)).1)
          simp only [Nat.sub_self, Nat.add_zero] at kk
          exact kk
        next => cases hs
      next => cases hs
    next => cases hs
  case aastore =>
    simp only [pm_len, beq_iff_eq] at hlen; subst hlen; simp only [pm_sB] at hs
    split at hs
    next v x a r =>
      split at hs
      next t n z cv fv ha hv =>
        split at hs
        next e0 =>
          cases hs
          have hat := hR.2.2 a
          rw [ha] at hat
          have hvt := hR.2.2 v
          rw [hv] at hvt
          have hin := pm_in_ok e0.2.2
          obtain ⟨rfl, rfl, -⟩ := e0
          have hlt : x.toNatClampNeg < n := Nat.not_le.mp fun q => hin (Or.inr q)
          have h0 : ¬ x < 0 := fun q => hin (Or.inl q)
          obtain ⟨-, r', hr', cellV, g1, g2, g3, -⟩ := hvt
          have hcls := (hK.1.1 0 _ rfl).2
          obtain ⟨kA, comp, k1, k2, k3, -⟩ := (hK.1.2 4 _ rfl).2
          have hcomp : comp = D.1 0 := Option.some.inj (k3.symm.trans hcls.1)
          subst hcomp
          obtain ⟨kC, hkC, -⟩ := hcls.2
          refine W.aast hx hb (hat.1 (Nat.le_of_ble_eq_true rfl)).2 (fun q h => by cases h) (fun h => by cases h) k1 k2 rfl hkC ⟨h0, by show _ < (arrV _ _ _).slots.size; rw [arrV_size]; exact hlt⟩ g1 (fun q h => by rw [g3] at h; cases h) (by rw [g2]; exact hkC) (by rw [g2]; exact va_assign hcls) rfl rfl hd fun H1 e z1 oq => ?_
          have kk := k H1 (locs ++ [⟨a, x.toNatClampNeg⟩]) (pm_sto (dA := dA) (t := 4) (n := n) (f := fun j => va_rf (z j)) (v := .ref v) rfl (by rw [vp_cell_q]; congr 1; funext q; unfold pm_up updV; split <;> rfl) (by decide) hR (hat.1 (Nat.le_of_ble_eq_true rfl)).1 e z1 oq) (pm_locs hlocs (hat.1 (Nat.le_of_ble_eq_true rfl)).1)
          simp only [Nat.sub_self, Nat.add_zero] at kk
          exact kk
        next => cases hs
      next => cases hs
    next => cases hs
  case putfield idx =>
    simp only [pm_len, beq_iff_eq] at hlen; subst hlen; simp only [pm_sB] at hs
    split at hs
    next v a r cf kf hf =>
      split at hs
      next c' fs ha =>
        split at hs
        next e0 =>
          obtain ⟨rfl, hl, hfit, hfin⟩ := e0
          cases hs
          have hm := pm_look hf
          have hk := List.all_eq_true.mp pm_fl_ok _ hm
          simp only [Bool.and_eq_true, decide_eq_true_eq] at hk
          obtain ⟨⟨k1, k2⟩, k3⟩ := hk
          obtain ⟨e1, e2⟩ := pm_key_ok k3
          have hw := pm_wf_all _ hm
          unfold pm_fw at hw
          simp only [e1, e2] at hw
          have hlink := hts _ hw rfl
          have hat := hR.2.2 a
          rw [ha] at hat
          have hcq := pm_cq_all (pm_clq c') (List.mem_of_getElem? (pm_clq_ok k1))
          have hin : ∀ w ∈ u_ws (pm_clq c').1 (pm_clq c').2.1 (pm_clq c').2.2, w ∈ pm_gw := fun w hw => pm_g (hcq.1 w hw) (by unfold u_ws u_lay at hw; obtain ⟨z, -, hz⟩ := List.mem_map.mp hw; rw [← hz]; split <;> rfl)
          have hap := va_apart (own := pm_nm (pm_own i)) hgw hin (pm_fty c') (pm_ty_ok c' k1) (pm_nm_ok c' k1) hK.1 (pm_clq_ok k1)
          obtain ⟨hBa, r0, hr0, cell, q1, q2, q3, q4⟩ := hat
          have hr : r0 = pm_clq c' := Option.some.inj (hr0.symm.trans (pm_clq_ok k1))
          subst hr
          obtain ⟨hS, hfc, kC, hkC, hkind⟩ := hK.1.1 c' _ (pm_clq_ok k1)
          obtain ⟨cf2, kf2, fi, f, hi, hsl⟩ := hS kf k2
          have hlay := hgw _ (hin _ (u_in_lay k2))
          have hst := (u_facts hfc hkC (u_lays hgw hin k2) hi).1
          obtain ⟨hn1, hn2⟩ := pm_fit_ok hfit
          have fin : ∀ H' : Heap, H'[a]? = some (cell.setSlot f.slot v) → H'.size = H.size → (∀ q, q ≠ a → H'[q]? = H[q]?) → W p l e R s m args below meth c H' (locs ++ [⟨a, f.slot⟩]) cells slots Q (F0 m (pc + 3) ls st') := by
            intro H' g1 g2 g3
            have kk := k H' (locs ++ [⟨a, f.slot⟩]) (hR.put g2 g3 ⟨hBa, _, pm_clq_ok k1, t_OB.to (V := updV (vp_V fs) kf v) ⟨_, g1, q2, q3, by rw [hsl]; exact t_set q4 hap k2 v⟩ (fun j _ => vp_updV_set hl v j)⟩) (pm_locs hlocs hBa)
            simp only [Nat.sub_self, Nat.add_zero] at kk
            exact kk
          unfold u_lay at hlay
          split at hlay
          next hF =>
            have hpf : pm_fin c' kf = true := by unfold pm_fin; rw [pm_clq_ok k1]; exact hF
            obtain ⟨hi2, ho⟩ := hfin hpf
            have hcf : m.cls = cf2 := by
              obtain ⟨_, _, c9, _, _, _, -, -, hf', -, -, -, hown2, -⟩ := Cond.laysFinal_spec hlay
              have e1 : c9 = cf2 := by have := hi.symm.trans hf'; simp at this; exact this.1.symm
              rw [pm_dc_ok c' k1 kf k2, ← ho] at hown2
              rw [← e1]; exact Option.some.inj (hown.symm.trans hown2)
            have h6 := u_fits hfc hkC hkind (Or.inr hlay) hi (pm_ty_ok c' k1 kf k2) hn1 hn2
            exact W.putFinK hx hb hown hlink hi hst hcf (hini hi2) (by rw [q2]; exact h6) q1 q3 (by rw [hsl]; exact k2_hasslot (q4 kf k2)) rfl rfl hd fin
          next hF =>
            have h6 := u_store hfc hkC hkind hlay hi (pm_ty_ok c' k1 kf k2) hn1 hn2
            exact W.putK hx hb (f := f) ⟨hown, hlink, ⟨_, _, _, hi⟩, hst⟩ (by rw [q2]; exact h6) q1 q3 (by rw [hsl]; exact k2_hasslot (q4 kf k2)) rfl rfl hd fin
        next => cases hs
      next => cases hs
    next => cases hs
  case new idx =>
    simp only [pm_len, beq_iff_eq] at hlen; subst hlen; simp only [pm_sB] at hs
    obtain ⟨cn, h1, h2⟩ := Option.bind_eq_some_iff.mp hs
    obtain ⟨q, h3, h4⟩ := Option.map_eq_some_iff.mp h2
    cases h4
    have hm := pm_look h1
    have hk := List.all_eq_true.mp pm_lc_ok _ hm
    simp only [Bool.and_eq_true, decide_eq_true_eq] at hk
    obtain ⟨k1, k3⟩ := hk
    have hq : q = pm_clq cn := Option.some.inj (h3.symm.trans (pm_clq_ok k1))
    subst hq
    obtain ⟨e1, e2⟩ := pm_key_ok k3
    have hw := pm_wc_all _ hm
    simp only [e1, e2] at hw
    have hcq := pm_cq_all (pm_clq cn) (List.mem_of_getElem? (pm_clq_ok k1))
    have hin : ∀ w ∈ u_ws (pm_clq cn).1 (pm_clq cn).2.1 (pm_clq cn).2.2, w ∈ pm_gw := fun w hw => pm_g (hcq.1 w hw) (by unfold u_ws u_lay at hw; obtain ⟨z, -, hz⟩ := List.mem_map.mp hw; rw [← hz]; split <;> rfl)
    have hKn := hK.1.1 cn _ (pm_clq_ok k1)
    have ec : h.1 + 1 - h.1 = 1 := by omega
    have es : h.2.1 + (pm_clq cn).2.2 - h.2.1 = (pm_clq cn).2.2 := by omega
    simp only [ec, es] at hcells hslots k
    refine W.newcK hx hb hown (hts _ hw rfl) (hts _ hcq.2.1 rfl) (hts _ hcq.2.2 rfl) rfl hd hcells hslots hKn.2.1 hR.1 fun H1 kC hkC g1 z1 o1 => ?_
    refine k H1 locs (hR.push _ (by rw [z1, hR.1]) (fun q hq => o1 q (by rw [← hR.1]; exact hq)) ⟨hR.2.1, _, pm_clq_ok k1, (u_born (pm_fty cn) hgw hin hKn hkC g1 (pm_ty_ok cn k1)).to (fun j hj => ?_)⟩) hlocs
    simp [vp_V, hj, pm_dv]
  case newarray ty =>
    simp only [pm_len, beq_iff_eq] at hlen; subst hlen; simp only [pm_sB] at hs
    split at hs
    next x r =>
      split at hs
      next e0 =>
        have hn : ¬ x < 0 := k2_nlt e0.1
        have ec : h.1 + 1 - h.1 = 1 := by omega
        have es : h.2.1 + x.toNatClampNeg - h.2.1 = x.toNatClampNeg := by omega
        cases ty <;> simp only at hs
        case int =>
          cases hs
          simp only [ec, es] at hcells hslots k
          refine va_newaK (atype := .int) hx hb (hts _ pm_ac_int rfl) rfl hd rfl hn rfl (by show x.toNatClampNeg * 4 ≤ _; omega) hcells hslots hR.1 fun H1 cA e1 z1 o1 hAr hNm => ?_
          have hcA : cA = dA 0 := Option.some.inj (hNm.symm.trans (hK.1.2 0 _ rfl).2)
          subst hcA
          exact k H1 locs (hR.push _ (by rw [z1, hR.1]) (fun q hq => o1 q (by rw [← hR.1]; exact hq)) ⟨fun _ => ⟨hR.2.1, e1⟩, fun q => by cases q⟩) hlocs
        case long =>
          cases hs
          simp only [ec, es] at hcells hslots k
          refine va_newaK (atype := .long) hx hb (hts _ pm_ac_long rfl) rfl hd rfl hn rfl (by show x.toNatClampNeg * 8 ≤ _; omega) hcells hslots hR.1 fun H1 cA e1 z1 o1 hAr hNm => ?_
          have hcA : cA = dA 1 := Option.some.inj (hNm.symm.trans (hK.1.2 1 _ rfl).2)
          subst hcA
          exact k H1 locs (hR.push _ (by rw [z1, hR.1]) (fun q hq => o1 q (by rw [← hR.1]; exact hq)) ⟨fun _ => ⟨hR.2.1, e1⟩, fun q => by cases q⟩) hlocs
        case boolean =>
          cases hs
          simp only [ec, es] at hcells hslots k
          refine va_newaK (atype := .boolean) hx hb (hts _ pm_ac_boolean rfl) rfl hd rfl hn rfl (by show x.toNatClampNeg * 1 ≤ _; omega) hcells hslots hR.1 fun H1 cA e1 z1 o1 hAr hNm => ?_
          have hcA : cA = dA 2 := Option.some.inj (hNm.symm.trans (hK.1.2 2 _ rfl).2)
          subst hcA
          exact k H1 locs (hR.push _ (by rw [z1, hR.1]) (fun q hq => o1 q (by rw [← hR.1]; exact hq)) ⟨fun _ => ⟨hR.2.1, e1⟩, fun q => by cases q⟩) hlocs
        all_goals cases hs
      next => cases hs
    next => cases hs
  case anewarray idx =>
    simp only [pm_len, beq_iff_eq] at hlen; subst hlen; simp only [pm_sB] at hs
    split at hs
    next x r =>
      split at hs
      next e0 =>
        cases hs
        obtain ⟨h1, h2, h3⟩ := e0
        have hn : ¬ x < 0 := k2_nlt h2
        have ec : h.1 + 1 - h.1 = 1 := by omega
        have es : h.2.1 + x.toNatClampNeg - h.2.1 = x.toNatClampNeg := by omega
        have hm := pm_look h1
        have hk := List.all_eq_true.mp pm_lc_ok _ hm
        simp only [Bool.and_eq_true, decide_eq_true_eq] at hk
        obtain ⟨e1, e2⟩ := pm_key_ok hk.2
        have hw := pm_wc_all _ hm
        simp only [e1, e2] at hw
        simp only [ec, es] at hcells hslots k
        refine W.anew (C := RX0) hx hb hown (hts _ hw rfl) (va_AO.use hK.2.2.2.1) rfl hd rfl hn (by omega) hcells hslots fun cA kA comp f1 f2 f3 f4 => ?_
        generalize hH1 : H.push ({ cls := cA, slots := Array.replicate x.toNatClampNeg .null, vm := .none } : Cell) = H1
        have z1 : H1.size = H.size + 1 := by rw [← hH1, Array.size_push]
        have g1 : H1[H.size]? = some (arrV cA x.toNatClampNeg (fun _ => .null)) := by rw [← hH1, Array.getElem?_push_size, ← arrV_new]
        have o1 : ∀ q : Nat, q < H.size → H1[q]? = H[q]? := fun q hq => by rw [← hH1, Array.getElem?_push, if_neg (Nat.ne_of_lt hq)]
        obtain ⟨-, -, -, -, -, hnm⟩ := (hK.1.2 4 _ rfl).2
        have hcA : cA = dA 4 := Option.some.inj (f1.symm.trans hnm)
        subst hcA
        rw [hR.1] at g1 ⊢
        exact k H1 locs (hR.push _ z1 o1 ⟨fun _ => ⟨hR.2.1, g1⟩, fun q => by cases q⟩) hlocs
      next => cases hs
    next => cases hs
  case invokespecial idx =>
    simp only [pm_len, beq_iff_eq] at hlen; subst hlen; simp only [pm_sB] at hs
    split at hs
    next a r =>
      split at hs
      next e0 =>
        cases hs
        have hk := List.all_eq_true.mp pm_mo_ok _ e0.1
        simp only [decide_eq_true_eq] at hk
        obtain ⟨e1, e2⟩ := pm_key_ok hk
        have hw := pm_wo_all _ e0.1
        simp only [e1, e2] at hw
        have kk := k H locs hR hlocs
        simp only [Nat.sub_self, Nat.add_zero] at kk
        have e9 : (st'.map fun v => v.category).sum ≤ 8 := e0.2
        exact W.objInit hx hb hown (hts _ hw rfl) (hts _ pm_oi.1 rfl) (hts _ pm_oi.2 rfl) rfl hsz rfl hd hfr (by show 2 * 0 + _ + 12 ≤ _; omega) kk
      next => cases hs
    next => cases hs
  case multianewarray idx dims => exact pm_sB_multi hx hb hd hlen hs hown hts hK hR hlocs hcells hslots k
  all_goals (simp [pm_sB] at hs)
end PMB
