theorem rx_zer_sz (t n : Nat) : rx_sz1 (.inl (t, rx_zer t n)) = n := by
  show (rx_zer t n).1 = n
  unfold rx_zer
  split <;> rfl
section RXZ
variable {p : Program} {l : Launch} {e : Env} {R : Room} {s : State} {m : MethodId} {args : Array Value} {below : List Frame} {meth : Method} {c : Code} {Q : State → Prop}
variable {all : List Cond} {cl : List vw_C} {tys : List FieldType} {sts : List (String × String × String × Nat)} {nst : List Cond} {D : va_G} {dT : Nat → ClassId} {ro : Nat → Nat} {rt : rx_R} {base n0 z0 : Nat}
variable {cc : ByteArray} {nL pc pc' : Nat} {lv lv' : rx_L} {st st' t : List Value} {h h' : rx_H} {own : String}
theorem rx_h_gets (hx : p.tables.exec = Jvm.exec) (hb : c.code = cc) (hts : ∀ w ∈ all, w.before args s = true) (hown : s.vm.findClass own = some m.cls) (hK : rx_Kx cl tys sts nst D dT ro rt base s s.heap) {ix id : Nat} (G : ∃ C n d, (C, n, d, id) ∈ sts ∧ (Cond.fieldLink own ix C n d ∈ all ∨ ∃ host, Cond.fieldLinkNest own ix C n d host ∈ nst)) (hd : decode cc pc = .ok (.getstatic ix, 3))
    (K : rx_At p l e R s m args below meth c Q cl D dT ro base n0 z0 nL (pc + 3) lv (.ref id :: st) h) : rx_At p l e R s m args below meth c Q cl D dT ro base n0 z0 nL pc lv st h := by
  intro H locs ls hn hz hW hS hl
  obtain ⟨C, n, d, hs, hlk⟩ := G
  obtain ⟨h16, hZ⟩ := hK.2.2.2.1 _ hs
  have h1 := K H locs ls hn hz hW hS hl
  rw [List.map_cons, show rx_cv (rx_ad ro base) (.ref id) = .ref (rx_ad ro base id) from rfl, rx_ad_r ro base h16] at h1
  rcases hlk with hlk | ⟨host, hlk⟩
  · exact va_gets hx hb hZ hS hown (hts _ hlk) (fun _ h9 => h9) hd h1
  · exact va_getsN hx hb hZ hS hown (va_Nw.use rfl (hK.2.2.2.2 _ hlk)) (fun _ h9 => h9) hd h1
end RXZ
