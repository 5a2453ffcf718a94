section BASE2
variable {p : Program} {l : Launch} {e : Env} {R : Room} {s : State} {m : MethodId} {args : Array Value} {below : List Frame} {meth : Method} {c : Code} {H : Heap} {locs : List Loc} {cells slots : Nat} {Q : State → Prop}
variable {D : va_G} {cl : List vw_C} {tys : List (ClassId × FieldType)} {E : zE} {av : List Value} {ws wc wr wx : va_W} {sz mc ms pc : Nat} {A : Nat → Prop} {ls : Array Slot} {st0 rest : List Value} {a : Array Value}
theorem z_xcallf {S : Type} {post : UInt32 → S → Prop} {w1 : S → va_W} {px : Prop} {exn : String} (hr : vx_Run p l e R s m args below meth c H locs cells slots mc ms (F0 m pc ls st0) rest (va_Qf post (zB D cl tys w1 (va_A ws H.size)) (va_A ws H.size) a) (zX D cl tys px exn wx (va_A ws H.size)) (va_A ws H.size)) (hD : va_D A ws) (hS : va_S A s.heap H locs) (hA : ∀ q, s.heap.size ≤ q → A q)
    (kx : ∀ (ce : Cell) (q9 : Addr) (H1 : Heap) (locs1 : List Loc), px → va_P D cl wx H1 → va_D A wx → va_S A s.heap H1 locs1 → H1[q9]? = some ce → ce.vm = .none → s.vm.findClass exn = some ce.cls → vx_W p l e R s m args below meth c H1 locs1 (cells + mc) (slots + ms) Q (F0 m pc ls rest) q9)
    (kk : ∀ (r : UInt32) (u : S) (H1 : Heap) (locs1 : List Loc), post r u → va_P D cl (w1 u) H1 → va_D A (w1 u) → va_S A s.heap H1 locs1 → W p l e R s m args below meth c H1 locs1 (cells + mc) (slots + ms) Q (F0 m (pc + 3) ls (.float r :: rest))) : W p l e R s m args below meth c H locs cells slots Q (F0 m pc ls st0) :=
  vx_callf hr hS (fun q _ h => z_free hD hS hA q h) (z_free hD hS hA) (fun q _ h => z_free hD hS hA q h)
    (fun E9 ce q9 u t H1 locs1 ht hvm hp hB hz hk hS1 h1 h2 h3 => by
      obtain ⟨rfl, hP1, -, hD1⟩ := hB
      rw [ht] at hP1
      exact kx ce q9 H1 locs1 hp hP1 (hD1.weaken (fun k q hk hq => z_free hD hS hA _ hq)) hS1 h1 h2 h3)
    (fun r u t H1 locs1 ht hvm hw hB hz hk hS1 => by
      obtain ⟨hP1, -, hD1⟩ := hB
      rw [ht] at hP1
      exact kk r u H1 locs1 hw hP1 (hD1.weaken (fun k q hk hq => z_free hD hS hA _ hq)) hS1)
theorem z_xcalld {S : Type} {post : UInt64 → S → Prop} {w1 : S → va_W} {px : Prop} {exn : String} (hr : vx_Run p l e R s m args below meth c H locs cells slots mc ms (F0 m pc ls st0) rest (va_Qd post (zB D cl tys w1 (va_A ws H.size)) (va_A ws H.size) a) (zX D cl tys px exn wx (va_A ws H.size)) (va_A ws H.size)) (hD : va_D A ws) (hS : va_S A s.heap H locs) (hA : ∀ q, s.heap.size ≤ q → A q)
    (kx : ∀ (ce : Cell) (q9 : Addr) (H1 : Heap) (locs1 : List Loc), px → va_P D cl wx H1 → va_D A wx → va_S A s.heap H1 locs1 → H1[q9]? = some ce → ce.vm = .none → s.vm.findClass exn = some ce.cls → vx_W p l e R s m args below meth c H1 locs1 (cells + mc) (slots + ms) Q (F0 m pc ls rest) q9)
    (kk : ∀ (r : UInt64) (u : S) (H1 : Heap) (locs1 : List Loc), post r u → va_P D cl (w1 u) H1 → va_D A (w1 u) → va_S A s.heap H1 locs1 → W p l e R s m args below meth c H1 locs1 (cells + mc) (slots + ms) Q (F0 m (pc + 3) ls (.double r :: rest))) : W p l e R s m args below meth c H locs cells slots Q (F0 m pc ls st0) :=
  vx_calld hr hS (fun q _ h => z_free hD hS hA q h) (z_free hD hS hA) (fun q _ h => z_free hD hS hA q h)
    (fun E9 ce q9 u t H1 locs1 ht hvm hp hB hz hk hS1 h1 h2 h3 => by
      obtain ⟨rfl, hP1, -, hD1⟩ := hB
      rw [ht] at hP1
      exact kx ce q9 H1 locs1 hp hP1 (hD1.weaken (fun k q hk hq => z_free hD hS hA _ hq)) hS1 h1 h2 h3)
    (fun r u t H1 locs1 ht hvm hw hB hz hk hS1 => by
      obtain ⟨hP1, -, hD1⟩ := hB
      rw [ht] at hP1
      exact kk r u H1 locs1 hw hP1 (hD1.weaken (fun k q hk hq => z_free hD hS hA _ hq)) hS1)
end BASE2
