/-! THE LAW FROM ITS ENTRY, out of an invariant (by wip/whole/x47.py) -/
theorem la_start {p : Program} {e : Env} {s : State} {m : MethodId} {below : List Frame} {meth : Method} {c : Code} (l : Launch) (hflags : l.flags = flags0) {b L : Nat} {xs : Nat → Int32} (hL : L ≤ 3584) (C0 : lw_At p s m meth c b L xs)
    {JI : Nat → jZ → jD → Prop} (hS : ∀ n Z D, JI n Z D → ja_SH Z) (hm : ∀ n Z D, JI n Z D → JI (n + 1) Z D) (A : ja_All l JI) (h0 : JI 0 ZS DS) :
    W p l e room_1 s m #[Value.ref b] below meth c s.heap [] 0 0 (lw_Z below #[Value.ref b] s) (entryFrame m ([Value.ref b] : List Value).toArray 9) := by
  obtain ⟨hx, hb, hr, hml, hown, hts, hX, hbl, hlocks, hgv⟩ := id C0
  obtain ⟨G, tc, hV⟩ := st_V hflags hts hgv (fun _ => b)
  have hA : ¬ ja_Ar (fun _ => b) [] s.heap.size b := fun h => by
    rcases h with ⟨i, hi, -⟩ | h
    · cases hi
    · omega
  have hCx : ja_C l (mL_law meth.name (c.exceptionTable.toList.map (fun x => (x.startPc, x.endPc, x.handlerPc, x.catchType)))) (L + 1, xs) p s m #[Value.ref b] meth c G tc (fun _ => b) [] :=
    by
    refine ⟨⟨hx, hb, hml, hown, fun w h => hts w (List.mem_filter.mp h).1⟩, hr, hlocks, rfl, ?_, hV, Or.inr ⟨hX, hbl, hA⟩⟩
    unfold tableOf
    rw [List.map_map]
    exact (List.map_id _).symm
  have hR : ja_R G tc (fun _ => b) ZS0 DS0 s.heap := ⟨fun k q h => by simp [ja_w] at h, List.nodup_nil, ⟨by simp, rfl⟩, fun id h => by cases h⟩
  have I : ja_I s G tc (fun _ => b) [] (fun _ => b) ZS0 DS0 s.heap [] := ⟨fun _ _ => rfl, fun _ h => h, fun _ h => (by cases h), hR, ⟨fun i j p q h => by simp [ja_w] at h, fun k q h => by simp [ja_w] at h⟩, va_S.rf⟩
  have hl := ja_Le (ad := fun _ => b) (av := [.ref 900]) (nL := 9) (Z := ZS0) (by simp; rfl) (by decide) (fun v hv => by
    have : v = .ref 900 := by simpa using hv
    subst this
    exact ja_ok9)
  have k := la_law (l := l) (b := b) hS hm A (sc := (L + 1, xs)) rfl hL h0 p e s m #[Value.ref b] below meth c G tc (fun _ => b) [] (fun _ => b) s.heap [] _ hCx I hl ja_osn
  rw [lg_entry_eq]
  intro T hT X
  obtain ⟨t, a1, b1⟩ := k T hT X
  exact ⟨t, a1, b1 ⟨rfl, rfl⟩⟩
