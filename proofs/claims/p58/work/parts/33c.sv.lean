section SV
variable {p : Program} {l : Launch} {e : Env} {R : Room} {s : State} {m : MethodId} {args : Array Value} {below : List Frame} {meth : Method} {c : Code} {H : Heap} {locs : List Loc} {cells slots : Nat} {Q : State → Prop}
variable {cc : ByteArray} {nL pc : Nat} {ls : Array Slot} {rest st : List Value} {D : va_G} {tb : Nat → ClassId} {X : State → Prop} {z0 n a : Nat} {M : me_M} {own : String}
variable {C : String} {index maxL mc ms nA ci N' : Nat} {y : MethodName} {bytes : ByteArray} {ret : Option FieldType} {rm : Room} {As : List Value} {b n' : Nat} {M' : me_M} {r : Int32} {T' : u_T} {fs : List Value}
theorem me_callSv (hC : me_cx ws_all p c cc nL s args m own D tb X z0) (hl : ls.size = nL) (hM : me_at D z0 M n s H locs) (ct : Met l y (.code y bytes maxL ret :: ws_all) rm (me_Pc As D tb X z0 M n) (me_Qv D z0 M' n') mc ms (me_A z0)) (cw : CallB R s args own index y bytes maxL ret (.code y bytes maxL ret :: ws_all) rm mc ms nA ∧ (Cond.static y).before args s = true) (hnA : As.length = nA) (hst : st = As.reverse ++ rest) (hr : (rest.map fun v => v.category).sum ≤ 8) (hdg : decode cc pc = .ok (.invokestatic index, 3)) (hf : cells + mc ≤ R.cells ∧ slots + ms ≤ R.slots)
    (kk : ∀ (H1 : Heap) (locs1 : List Loc), me_at D z0 M' n' s H1 locs1 → W p l e R s m args below meth c H1 locs1 (cells + mc) (slots + ms) Q (F0 m (pc + 3) ls rest)) : W p l e R s m args below meth c H locs cells slots Q (F0 m pc ls st) := by
  subst hst
  refine va_callv (va_runS (g := F0 m pc ls (As.reverse ++ rest)) (As := As) (rest := rest) ⟨hC.1, hC.2.1, hC.2.2.1, hC.2.2.2.1, hC.2.2.2.2.1⟩ ct cw ⟨me_blind, fun U hU hW => me_pre hC hM U hU hW⟩ rfl hnA hl rfl (lv_room hr) hdg hf) hM.2.2.2.2 (fun q _ h => h) (fun q h => h) (fun u t H1 locs1 ht hvm hw hB hz1 hk1 hS => ?_)
  subst hw
  exact kk H1 locs1 (me_post hM ht hB hz1 hS)
end SV
