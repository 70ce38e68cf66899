/-! ===== forms of contracts; calls by form; array rows by numbers ===== -/
def Ei (r : Int32) (h2 : Mem) : Option Value → Mem → Prop := fun v h' => v = some (.int r) ∧ h' = h2
def El (r : Int64) (h2 : Mem) : Option Value → Mem → Prop := fun v h' => v = some (.long r) ∧ h' = h2
def Ea (r : Nat) (h2 : Mem) : Option Value → Mem → Prop := fun v h' => v = some (.ref r) ∧ h' = h2
def Ev (h2 : Mem) : Option Value → Mem → Prop := fun v h' => v = none ∧ h' = h2
def Qi (Q : Int32 → Mem → Prop) : Option Value → Mem → Prop := fun v h' => ∃ r, v = some (.int r) ∧ Q r h'
def Qv (Q : Mem → Prop) : Option Value → Mem → Prop := fun v h' => v = none ∧ Q h'
theorem Ei.mk {r r2 : Int32} {h h2 : Mem} (e : r = r2) (e2 : h = h2) : Ei r2 h2 (some (.int r)) h := ⟨by rw [e], e2⟩
theorem El.mk {r r2 : Int64} {h h2 : Mem} (e : r = r2) (e2 : h = h2) : El r2 h2 (some (.long r)) h := ⟨by rw [e], e2⟩
theorem Qi.mk {Q : Int32 → Mem → Prop} {r : Int32} {h : Mem} (e : Q r h) : Qi Q (some (.int r)) h := ⟨r, rfl, e⟩
theorem Qv.mk {Q : Mem → Prop} {h : Mem} (e : Q h) : Qv Q none h := ⟨rfl, e⟩
section GForms
variable {Γ : Fr} {cc : ByteArray} {nL : Nat} {own : String} {fr lo : Nat} {h : Mem} {pc : Nat} {L : List (Option Value)} {S : List Value}
variable {y : MethodName} {cc2 : ByteArray} {nL2 : Nat} {ret2 : Option FieldType} {fr2 lo2 n idx b ci N : Nat} {fs : List (Option Nat)} {As st : List Value} {T : u_T}
theorem g_callVi (o : ca_O Γ cc nL own fr lo) {r : Int32} {h2 : Mem} (K : Ct y cc2 nL2 ret2 fr2 lo2 (.ref b :: As) h (Ei r h2)) (mt : ca_mt y cc2 nL2 ret2 n) (mv : ca_mv y) (hlk : Cond.methodLink own idx y ∈ T0) (hb : ca_lay[b]? = some (.inl (ci, fs))) (hc : vwCl[ci]? = some (y.cls, T, N)) (hn : As.length = n) (hR : fr2 + 1 ≤ fr ∧ 8 + (nL2 + 11) + lo2 ≤ lo) (hst : st = As.reverse ++ .ref b :: S) (hcat : (S.map fun v => v.category).sum ≤ 8) (d : decode cc pc = .ok (.invokevirtual idx, 3)) (k : ca_G Γ nL h2 (pc + 3) L (.int r :: S)) : ca_G Γ nL h pc L st := g_callV o K mt mv hlk hb hc hn hR hst hcat d (fun v h' e => by obtain ⟨rfl, rfl⟩ := e; exact k)
theorem g_callSi (o : ca_O Γ cc nL own fr lo) {r : Int32} {h2 : Mem} (K : Ct y cc2 nL2 ret2 fr2 lo2 As h (Ei r h2)) (mt : ca_mt y cc2 nL2 ret2 n) (ms : Cond.static y ∈ T0) (hlk : Cond.methodLink own idx y ∈ T0) (hn : As.length = n) (hR : fr2 + 1 ≤ fr ∧ 8 + (nL2 + 11) + lo2 ≤ lo) (hst : st = As.reverse ++ S) (hcat : (S.map fun v => v.category).sum ≤ 8) (d : decode cc pc = .ok (.invokestatic idx, 3)) (k : ca_G Γ nL h2 (pc + 3) L (.int r :: S)) : ca_G Γ nL h pc L st := g_callS o K mt ms hlk hn hR hst hcat d (fun v h' e => by obtain ⟨rfl, rfl⟩ := e; exact k)
theorem g_callNi (o : ca_O Γ cc nL own fr lo) {host : String} {r : Int32} {h2 : Mem} (K : Ct y cc2 nL2 ret2 fr2 lo2 As h (Ei r h2)) (mt : ca_mt y cc2 nL2 ret2 n) (ms : Cond.static y ∈ T0) (hlk : Cond.methodLinkNest own idx y host ∈ ca_nest) (hn : As.length = n) (hR : fr2 + 1 ≤ fr ∧ 8 + (nL2 + 11) + lo2 ≤ lo) (hst : st = As.reverse ++ S) (hcat : (S.map fun v => v.category).sum ≤ 8) (d : decode cc pc = .ok (.invokestatic idx, 3)) (k : ca_G Γ nL h2 (pc + 3) L (.int r :: S)) : ca_G Γ nL h pc L st := g_callN o K mt ms hlk hn hR hst hcat d (fun v h' e => by obtain ⟨rfl, rfl⟩ := e; exact k)
theorem g_callTi (o : ca_O Γ cc nL own fr lo) {i : Nat} {r : Int32} {h2 : Mem} (K : Ct y cc2 nL2 ret2 fr2 lo2 (.ref (1000 + i) :: As) h (Ei r h2)) (mt : ca_mt y cc2 nL2 ret2 n) (mv : ca_mv y) (hlk : Cond.methodLink own idx y ∈ T0) (hi : i < 12) (hc : y.cls = "java/lang/String") (hn : As.length = n) (hR : fr2 + 1 ≤ fr ∧ 8 + (nL2 + 11) + lo2 ≤ lo) (hst : st = As.reverse ++ .ref (1000 + i) :: S) (hcat : (S.map fun v => v.category).sum ≤ 8) (d : decode cc pc = .ok (.invokevirtual idx, 3)) (k : ca_G Γ nL h2 (pc + 3) L (.int r :: S)) : ca_G Γ nL h pc L st := g_callT o K mt mv hlk hi hc hn hR hst hcat d (fun v h' e => by obtain ⟨rfl, rfl⟩ := e; exact k)
theorem g_callVl (o : ca_O Γ cc nL own fr lo) {r : Int64} {h2 : Mem} (K : Ct y cc2 nL2 ret2 fr2 lo2 (.ref b :: As) h (El r h2)) (mt : ca_mt y cc2 nL2 ret2 n) (mv : ca_mv y) (hlk : Cond.methodLink own idx y ∈ T0) (hb : ca_lay[b]? = some (.inl (ci, fs))) (hc : vwCl[ci]? = some (y.cls, T, N)) (hn : As.length = n) (hR : fr2 + 1 ≤ fr ∧ 8 + (nL2 + 11) + lo2 ≤ lo) (hst : st = As.reverse ++ .ref b :: S) (hcat : (S.map fun v => v.category).sum ≤ 8) (d : decode cc pc = .ok (.invokevirtual idx, 3)) (k : ca_G Γ nL h2 (pc + 3) L (.long r :: S)) : ca_G Γ nL h pc L st := g_callV o K mt mv hlk hb hc hn hR hst hcat d (fun v h' e => by obtain ⟨rfl, rfl⟩ := e; exact k)
theorem g_callSl (o : ca_O Γ cc nL own fr lo) {r : Int64} {h2 : Mem} (K : Ct y cc2 nL2 ret2 fr2 lo2 As h (El r h2)) (mt : ca_mt y cc2 nL2 ret2 n) (ms : Cond.static y ∈ T0) (hlk : Cond.methodLink own idx y ∈ T0) (hn : As.length = n) (hR : fr2 + 1 ≤ fr ∧ 8 + (nL2 + 11) + lo2 ≤ lo) (hst : st = As.reverse ++ S) (hcat : (S.map fun v => v.category).sum ≤ 8) (d : decode cc pc = .ok (.invokestatic idx, 3)) (k : ca_G Γ nL h2 (pc + 3) L (.long r :: S)) : ca_G Γ nL h pc L st := g_callS o K mt ms hlk hn hR hst hcat d (fun v h' e => by obtain ⟨rfl, rfl⟩ := e; exact k)
theorem g_callNl (o : ca_O Γ cc nL own fr lo) {host : String} {r : Int64} {h2 : Mem} (K : Ct y cc2 nL2 ret2 fr2 lo2 As h (El r h2)) (mt : ca_mt y cc2 nL2 ret2 n) (ms : Cond.static y ∈ T0) (hlk : Cond.methodLinkNest own idx y host ∈ ca_nest) (hn : As.length = n) (hR : fr2 + 1 ≤ fr ∧ 8 + (nL2 + 11) + lo2 ≤ lo) (hst : st = As.reverse ++ S) (hcat : (S.map fun v => v.category).sum ≤ 8) (d : decode cc pc = .ok (.invokestatic idx, 3)) (k : ca_G Γ nL h2 (pc + 3) L (.long r :: S)) : ca_G Γ nL h pc L st := g_callN o K mt ms hlk hn hR hst hcat d (fun v h' e => by obtain ⟨rfl, rfl⟩ := e; exact k)
theorem g_callTl (o : ca_O Γ cc nL own fr lo) {i : Nat} {r : Int64} {h2 : Mem} (K : Ct y cc2 nL2 ret2 fr2 lo2 (.ref (1000 + i) :: As) h (El r h2)) (mt : ca_mt y cc2 nL2 ret2 n) (mv : ca_mv y) (hlk : Cond.methodLink own idx y ∈ T0) (hi : i < 12) (hc : y.cls = "java/lang/String") (hn : As.length = n) (hR : fr2 + 1 ≤ fr ∧ 8 + (nL2 + 11) + lo2 ≤ lo) (hst : st = As.reverse ++ .ref (1000 + i) :: S) (hcat : (S.map fun v => v.category).sum ≤ 8) (d : decode cc pc = .ok (.invokevirtual idx, 3)) (k : ca_G Γ nL h2 (pc + 3) L (.long r :: S)) : ca_G Γ nL h pc L st := g_callT o K mt mv hlk hi hc hn hR hst hcat d (fun v h' e => by obtain ⟨rfl, rfl⟩ := e; exact k)
theorem g_callVa (o : ca_O Γ cc nL own fr lo) {r : Nat} {h2 : Mem} (K : Ct y cc2 nL2 ret2 fr2 lo2 (.ref b :: As) h (Ea r h2)) (mt : ca_mt y cc2 nL2 ret2 n) (mv : ca_mv y) (hlk : Cond.methodLink own idx y ∈ T0) (hb : ca_lay[b]? = some (.inl (ci, fs))) (hc : vwCl[ci]? = some (y.cls, T, N)) (hn : As.length = n) (hR : fr2 + 1 ≤ fr ∧ 8 + (nL2 + 11) + lo2 ≤ lo) (hst : st = As.reverse ++ .ref b :: S) (hcat : (S.map fun v => v.category).sum ≤ 8) (d : decode cc pc = .ok (.invokevirtual idx, 3)) (k : ca_G Γ nL h2 (pc + 3) L (.ref r :: S)) : ca_G Γ nL h pc L st := g_callV o K mt mv hlk hb hc hn hR hst hcat d (fun v h' e => by obtain ⟨rfl, rfl⟩ := e; exact k)
theorem g_callSa (o : ca_O Γ cc nL own fr lo) {r : Nat} {h2 : Mem} (K : Ct y cc2 nL2 ret2 fr2 lo2 As h (Ea r h2)) (mt : ca_mt y cc2 nL2 ret2 n) (ms : Cond.static y ∈ T0) (hlk : Cond.methodLink own idx y ∈ T0) (hn : As.length = n) (hR : fr2 + 1 ≤ fr ∧ 8 + (nL2 + 11) + lo2 ≤ lo) (hst : st = As.reverse ++ S) (hcat : (S.map fun v => v.category).sum ≤ 8) (d : decode cc pc = .ok (.invokestatic idx, 3)) (k : ca_G Γ nL h2 (pc + 3) L (.ref r :: S)) : ca_G Γ nL h pc L st := g_callS o K mt ms hlk hn hR hst hcat d (fun v h' e => by obtain ⟨rfl, rfl⟩ := e; exact k)
theorem g_callNa (o : ca_O Γ cc nL own fr lo) {host : String} {r : Nat} {h2 : Mem} (K : Ct y cc2 nL2 ret2 fr2 lo2 As h (Ea r h2)) (mt : ca_mt y cc2 nL2 ret2 n) (ms : Cond.static y ∈ T0) (hlk : Cond.methodLinkNest own idx y host ∈ ca_nest) (hn : As.length = n) (hR : fr2 + 1 ≤ fr ∧ 8 + (nL2 + 11) + lo2 ≤ lo) (hst : st = As.reverse ++ S) (hcat : (S.map fun v => v.category).sum ≤ 8) (d : decode cc pc = .ok (.invokestatic idx, 3)) (k : ca_G Γ nL h2 (pc + 3) L (.ref r :: S)) : ca_G Γ nL h pc L st := g_callN o K mt ms hlk hn hR hst hcat d (fun v h' e => by obtain ⟨rfl, rfl⟩ := e; exact k)
theorem g_callTa (o : ca_O Γ cc nL own fr lo) {i : Nat} {r : Nat} {h2 : Mem} (K : Ct y cc2 nL2 ret2 fr2 lo2 (.ref (1000 + i) :: As) h (Ea r h2)) (mt : ca_mt y cc2 nL2 ret2 n) (mv : ca_mv y) (hlk : Cond.methodLink own idx y ∈ T0) (hi : i < 12) (hc : y.cls = "java/lang/String") (hn : As.length = n) (hR : fr2 + 1 ≤ fr ∧ 8 + (nL2 + 11) + lo2 ≤ lo) (hst : st = As.reverse ++ .ref (1000 + i) :: S) (hcat : (S.map fun v => v.category).sum ≤ 8) (d : decode cc pc = .ok (.invokevirtual idx, 3)) (k : ca_G Γ nL h2 (pc + 3) L (.ref r :: S)) : ca_G Γ nL h pc L st := g_callT o K mt mv hlk hi hc hn hR hst hcat d (fun v h' e => by obtain ⟨rfl, rfl⟩ := e; exact k)
theorem g_callVv (o : ca_O Γ cc nL own fr lo) {h2 : Mem} (K : Ct y cc2 nL2 ret2 fr2 lo2 (.ref b :: As) h (Ev h2)) (mt : ca_mt y cc2 nL2 ret2 n) (mv : ca_mv y) (hlk : Cond.methodLink own idx y ∈ T0) (hb : ca_lay[b]? = some (.inl (ci, fs))) (hc : vwCl[ci]? = some (y.cls, T, N)) (hn : As.length = n) (hR : fr2 + 1 ≤ fr ∧ 8 + (nL2 + 11) + lo2 ≤ lo) (hst : st = As.reverse ++ .ref b :: S) (hcat : (S.map fun v => v.category).sum ≤ 8) (d : decode cc pc = .ok (.invokevirtual idx, 3)) (k : ca_G Γ nL h2 (pc + 3) L S) : ca_G Γ nL h pc L st := g_callV o K mt mv hlk hb hc hn hR hst hcat d (fun v h' e => by obtain ⟨rfl, rfl⟩ := e; exact k)
theorem g_callSv (o : ca_O Γ cc nL own fr lo) {h2 : Mem} (K : Ct y cc2 nL2 ret2 fr2 lo2 As h (Ev h2)) (mt : ca_mt y cc2 nL2 ret2 n) (ms : Cond.static y ∈ T0) (hlk : Cond.methodLink own idx y ∈ T0) (hn : As.length = n) (hR : fr2 + 1 ≤ fr ∧ 8 + (nL2 + 11) + lo2 ≤ lo) (hst : st = As.reverse ++ S) (hcat : (S.map fun v => v.category).sum ≤ 8) (d : decode cc pc = .ok (.invokestatic idx, 3)) (k : ca_G Γ nL h2 (pc + 3) L S) : ca_G Γ nL h pc L st := g_callS o K mt ms hlk hn hR hst hcat d (fun v h' e => by obtain ⟨rfl, rfl⟩ := e; exact k)
theorem g_callNv (o : ca_O Γ cc nL own fr lo) {host : String} {h2 : Mem} (K : Ct y cc2 nL2 ret2 fr2 lo2 As h (Ev h2)) (mt : ca_mt y cc2 nL2 ret2 n) (ms : Cond.static y ∈ T0) (hlk : Cond.methodLinkNest own idx y host ∈ ca_nest) (hn : As.length = n) (hR : fr2 + 1 ≤ fr ∧ 8 + (nL2 + 11) + lo2 ≤ lo) (hst : st = As.reverse ++ S) (hcat : (S.map fun v => v.category).sum ≤ 8) (d : decode cc pc = .ok (.invokestatic idx, 3)) (k : ca_G Γ nL h2 (pc + 3) L S) : ca_G Γ nL h pc L st := g_callN o K mt ms hlk hn hR hst hcat d (fun v h' e => by obtain ⟨rfl, rfl⟩ := e; exact k)
theorem g_callTv (o : ca_O Γ cc nL own fr lo) {i : Nat} {h2 : Mem} (K : Ct y cc2 nL2 ret2 fr2 lo2 (.ref (1000 + i) :: As) h (Ev h2)) (mt : ca_mt y cc2 nL2 ret2 n) (mv : ca_mv y) (hlk : Cond.methodLink own idx y ∈ T0) (hi : i < 12) (hc : y.cls = "java/lang/String") (hn : As.length = n) (hR : fr2 + 1 ≤ fr ∧ 8 + (nL2 + 11) + lo2 ≤ lo) (hst : st = As.reverse ++ .ref (1000 + i) :: S) (hcat : (S.map fun v => v.category).sum ≤ 8) (d : decode cc pc = .ok (.invokevirtual idx, 3)) (k : ca_G Γ nL h2 (pc + 3) L S) : ca_G Γ nL h pc L st := g_callT o K mt mv hlk hi hc hn hR hst hcat d (fun v h' e => by obtain ⟨rfl, rfl⟩ := e; exact k)
theorem g_callVQi (o : ca_O Γ cc nL own fr lo) {Q : Int32 → Mem → Prop} (K : Ct y cc2 nL2 ret2 fr2 lo2 (.ref b :: As) h (Qi Q)) (mt : ca_mt y cc2 nL2 ret2 n) (mv : ca_mv y) (hlk : Cond.methodLink own idx y ∈ T0) (hb : ca_lay[b]? = some (.inl (ci, fs))) (hc : vwCl[ci]? = some (y.cls, T, N)) (hn : As.length = n) (hR : fr2 + 1 ≤ fr ∧ 8 + (nL2 + 11) + lo2 ≤ lo) (hst : st = As.reverse ++ .ref b :: S) (hcat : (S.map fun v => v.category).sum ≤ 8) (d : decode cc pc = .ok (.invokevirtual idx, 3)) (k : ∀ (r : Int32) (h2 : Mem), Q r h2 → ca_G Γ nL h2 (pc + 3) L (.int r :: S)) : ca_G Γ nL h pc L st := g_callV o K mt mv hlk hb hc hn hR hst hcat d (fun v h' e => by obtain ⟨r, rfl, e⟩ := e; exact k r _ e)
theorem g_callSQi (o : ca_O Γ cc nL own fr lo) {Q : Int32 → Mem → Prop} (K : Ct y cc2 nL2 ret2 fr2 lo2 As h (Qi Q)) (mt : ca_mt y cc2 nL2 ret2 n) (ms : Cond.static y ∈ T0) (hlk : Cond.methodLink own idx y ∈ T0) (hn : As.length = n) (hR : fr2 + 1 ≤ fr ∧ 8 + (nL2 + 11) + lo2 ≤ lo) (hst : st = As.reverse ++ S) (hcat : (S.map fun v => v.category).sum ≤ 8) (d : decode cc pc = .ok (.invokestatic idx, 3)) (k : ∀ (r : Int32) (h2 : Mem), Q r h2 → ca_G Γ nL h2 (pc + 3) L (.int r :: S)) : ca_G Γ nL h pc L st := g_callS o K mt ms hlk hn hR hst hcat d (fun v h' e => by obtain ⟨r, rfl, e⟩ := e; exact k r _ e)
theorem g_callNQi (o : ca_O Γ cc nL own fr lo) {host : String} {Q : Int32 → Mem → Prop} (K : Ct y cc2 nL2 ret2 fr2 lo2 As h (Qi Q)) (mt : ca_mt y cc2 nL2 ret2 n) (ms : Cond.static y ∈ T0) (hlk : Cond.methodLinkNest own idx y host ∈ ca_nest) (hn : As.length = n) (hR : fr2 + 1 ≤ fr ∧ 8 + (nL2 + 11) + lo2 ≤ lo) (hst : st = As.reverse ++ S) (hcat : (S.map fun v => v.category).sum ≤ 8) (d : decode cc pc = .ok (.invokestatic idx, 3)) (k : ∀ (r : Int32) (h2 : Mem), Q r h2 → ca_G Γ nL h2 (pc + 3) L (.int r :: S)) : ca_G Γ nL h pc L st := g_callN o K mt ms hlk hn hR hst hcat d (fun v h' e => by obtain ⟨r, rfl, e⟩ := e; exact k r _ e)
theorem g_callTQi (o : ca_O Γ cc nL own fr lo) {i : Nat} {Q : Int32 → Mem → Prop} (K : Ct y cc2 nL2 ret2 fr2 lo2 (.ref (1000 + i) :: As) h (Qi Q)) (mt : ca_mt y cc2 nL2 ret2 n) (mv : ca_mv y) (hlk : Cond.methodLink own idx y ∈ T0) (hi : i < 12) (hc : y.cls = "java/lang/String") (hn : As.length = n) (hR : fr2 + 1 ≤ fr ∧ 8 + (nL2 + 11) + lo2 ≤ lo) (hst : st = As.reverse ++ .ref (1000 + i) :: S) (hcat : (S.map fun v => v.category).sum ≤ 8) (d : decode cc pc = .ok (.invokevirtual idx, 3)) (k : ∀ (r : Int32) (h2 : Mem), Q r h2 → ca_G Γ nL h2 (pc + 3) L (.int r :: S)) : ca_G Γ nL h pc L st := g_callT o K mt mv hlk hi hc hn hR hst hcat d (fun v h' e => by obtain ⟨r, rfl, e⟩ := e; exact k r _ e)
theorem g_callVQv (o : ca_O Γ cc nL own fr lo) {Q : Mem → Prop} (K : Ct y cc2 nL2 ret2 fr2 lo2 (.ref b :: As) h (Qv Q)) (mt : ca_mt y cc2 nL2 ret2 n) (mv : ca_mv y) (hlk : Cond.methodLink own idx y ∈ T0) (hb : ca_lay[b]? = some (.inl (ci, fs))) (hc : vwCl[ci]? = some (y.cls, T, N)) (hn : As.length = n) (hR : fr2 + 1 ≤ fr ∧ 8 + (nL2 + 11) + lo2 ≤ lo) (hst : st = As.reverse ++ .ref b :: S) (hcat : (S.map fun v => v.category).sum ≤ 8) (d : decode cc pc = .ok (.invokevirtual idx, 3)) (k : ∀ h2 : Mem, Q h2 → ca_G Γ nL h2 (pc + 3) L S) : ca_G Γ nL h pc L st := g_callV o K mt mv hlk hb hc hn hR hst hcat d (fun v h' e => by obtain ⟨rfl, e⟩ := e; exact k _ e)
theorem g_callSQv (o : ca_O Γ cc nL own fr lo) {Q : Mem → Prop} (K : Ct y cc2 nL2 ret2 fr2 lo2 As h (Qv Q)) (mt : ca_mt y cc2 nL2 ret2 n) (ms : Cond.static y ∈ T0) (hlk : Cond.methodLink own idx y ∈ T0) (hn : As.length = n) (hR : fr2 + 1 ≤ fr ∧ 8 + (nL2 + 11) + lo2 ≤ lo) (hst : st = As.reverse ++ S) (hcat : (S.map fun v => v.category).sum ≤ 8) (d : decode cc pc = .ok (.invokestatic idx, 3)) (k : ∀ h2 : Mem, Q h2 → ca_G Γ nL h2 (pc + 3) L S) : ca_G Γ nL h pc L st := g_callS o K mt ms hlk hn hR hst hcat d (fun v h' e => by obtain ⟨rfl, e⟩ := e; exact k _ e)
theorem g_callNQv (o : ca_O Γ cc nL own fr lo) {host : String} {Q : Mem → Prop} (K : Ct y cc2 nL2 ret2 fr2 lo2 As h (Qv Q)) (mt : ca_mt y cc2 nL2 ret2 n) (ms : Cond.static y ∈ T0) (hlk : Cond.methodLinkNest own idx y host ∈ ca_nest) (hn : As.length = n) (hR : fr2 + 1 ≤ fr ∧ 8 + (nL2 + 11) + lo2 ≤ lo) (hst : st = As.reverse ++ S) (hcat : (S.map fun v => v.category).sum ≤ 8) (d : decode cc pc = .ok (.invokestatic idx, 3)) (k : ∀ h2 : Mem, Q h2 → ca_G Γ nL h2 (pc + 3) L S) : ca_G Γ nL h pc L st := g_callN o K mt ms hlk hn hR hst hcat d (fun v h' e => by obtain ⟨rfl, e⟩ := e; exact k _ e)
theorem g_callTQv (o : ca_O Γ cc nL own fr lo) {i : Nat} {Q : Mem → Prop} (K : Ct y cc2 nL2 ret2 fr2 lo2 (.ref (1000 + i) :: As) h (Qv Q)) (mt : ca_mt y cc2 nL2 ret2 n) (mv : ca_mv y) (hlk : Cond.methodLink own idx y ∈ T0) (hi : i < 12) (hc : y.cls = "java/lang/String") (hn : As.length = n) (hR : fr2 + 1 ≤ fr ∧ 8 + (nL2 + 11) + lo2 ≤ lo) (hst : st = As.reverse ++ .ref (1000 + i) :: S) (hcat : (S.map fun v => v.category).sum ≤ 8) (d : decode cc pc = .ok (.invokevirtual idx, 3)) (k : ∀ h2 : Mem, Q h2 → ca_G Γ nL h2 (pc + 3) L S) : ca_G Γ nL h pc L st := g_callT o K mt mv hlk hi hc hn hR hst hcat d (fun v h' e => by obtain ⟨rfl, e⟩ := e; exact k _ e)
theorem n_in {j n : Nat} {i : Int32} (e : i = nI j) (hj : j < n) (hn : n < 2 ^ 31) : vp_in i n ∧ i.toNatClampNeg = j := by
  subst e
  exact ⟨vp_in_nI hj hn, nI_clamp (Nat.lt_trans hj hn)⟩
theorem n_iald (o : ca_O Γ cc nL own fr lo) {n : Nat} {i : Int32} (j : Nat) (e : i = nI j) (hb : ca_lay[b]? = some (.inr (0, n))) (hj : j < n) (hn : n < 2 ^ 31) (d : decode cc pc = .ok (.iaload, 1)) (k : ca_G Γ nL h (pc + 1) L (.int (h.1 b j) :: S)) : ca_G Γ nL h pc L (.int i :: .ref b :: S) := by
  obtain ⟨h1, h2⟩ := n_in e hj hn
  refine g_iald o hb h1 d ?_
  rw [h2]
  exact k
theorem n_zald (o : ca_O Γ cc nL own fr lo) {n : Nat} {i : Int32} (j : Nat) (e : i = nI j) (hb : ca_lay[b]? = some (.inr (1, n))) (hj : j < n) (hn : n < 2 ^ 31) (d : decode cc pc = .ok (.baload, 1)) (k : ca_G Γ nL h (pc + 1) L (.int (h.1 b j) :: S)) : ca_G Γ nL h pc L (.int i :: .ref b :: S) := by
  obtain ⟨h1, h2⟩ := n_in e hj hn
  refine g_zald o hb h1 d ?_
  rw [h2]
  exact k
theorem n_lald (o : ca_O Γ cc nL own fr lo) {n : Nat} {i : Int32} (j : Nat) (e : i = nI j) (hb : ca_lay[b]? = some (.inr (2, n))) (hj : j < n) (hn : n < 2 ^ 31) (d : decode cc pc = .ok (.laload, 1)) (k : ca_G Γ nL h (pc + 1) L (.long (h.2 j) :: S)) : ca_G Γ nL h pc L (.int i :: .ref b :: S) := by
  obtain ⟨h1, h2⟩ := n_in e hj hn
  refine g_lald o hb h1 d ?_
  rw [h2]
  exact k
theorem n_iast (o : ca_O Γ cc nL own fr lo) {n : Nat} {i v : Int32} (j : Nat) (e : i = nI j) (hb : ca_lay[b]? = some (.inr (0, n))) (hj : j < n) (hn : n < 2 ^ 31) (d : decode cc pc = .ok (.iastore, 1)) (k : ca_G Γ nL (mw h b j v) (pc + 1) L S) : ca_G Γ nL h pc L (.int v :: .int i :: .ref b :: S) := by
  obtain ⟨h1, h2⟩ := n_in e hj hn
  refine g_iast o hb h1 d ?_
  rw [h2]
  exact k
theorem n_zast (o : ca_O Γ cc nL own fr lo) {n : Nat} {i v : Int32} (j : Nat) (e : i = nI j) (hb : ca_lay[b]? = some (.inr (1, n))) (hj : j < n) (hn : n < 2 ^ 31) (hv : vp_nar .boolean v = v) (d : decode cc pc = .ok (.bastore, 1)) (k : ca_G Γ nL (mw h b j v) (pc + 1) L S) : ca_G Γ nL h pc L (.int v :: .int i :: .ref b :: S) := by
  obtain ⟨h1, h2⟩ := n_in e hj hn
  refine g_zast o hb h1 hv d ?_
  rw [h2]
  exact k
theorem n_last (o : ca_O Γ cc nL own fr lo) {n : Nat} {i : Int32} {v : Int64} (j : Nat) (e : i = nI j) (hb : ca_lay[43]? = some (.inr (2, n))) (hj : j < n) (hn : n < 2 ^ 31) (d : decode cc pc = .ok (.lastore, 1)) (k : ca_G Γ nL (ml h j v) (pc + 1) L S) : ca_G Γ nL h pc L (.long v :: .int i :: .ref 43 :: S) := by
  obtain ⟨h1, h2⟩ := n_in e hj hn
  refine g_last o hb h1 d ?_
  rw [h2]
  exact k
theorem n_asked (o : ca_O Γ cc nL own fr lo) {i : Int32} (j : Nat) (e : i = nI j) (hj : j < 7) (d : decode cc pc = .ok (.iaload, 1)) (k : ca_G Γ nL h (pc + 1) L (.int (ca_asked.getD j 0) :: S)) : ca_G Γ nL h pc L (.int i :: .ref 900 :: S) := by
  obtain ⟨h1, h2⟩ := n_in e hj (by decide)
  refine g_askedAt o h1 d ?_
  rw [h2]
  exact k
theorem n_above (o : ca_O Γ cc nL own fr lo) {i : Int32} (j : Nat) (e : i = nI j) (hj : j < 7) (d : decode cc pc = .ok (.iaload, 1)) (k : ca_G Γ nL h (pc + 1) L (.int (ca_above.getD j 0) :: S)) : ca_G Γ nL h pc L (.int i :: .ref 901 :: S) := by
  obtain ⟨h1, h2⟩ := n_in e hj (by decide)
  refine g_aboveAt o h1 d ?_
  rw [h2]
  exact k
theorem n_acopy (o : ca_O Γ cc nL own fr lo) {ks kd n0 n1 : Nat} {sp dp m : Int32} (a c q : Nat) (ea : sp = nI a) (ec : dp = nI c) (eq : m = nI q) (hk0 : ca_lay[ks]? = some (.inr (0, n0))) (hk1 : ca_lay[kd]? = some (.inr (0, n1))) (h4 : a + q ≤ n0) (h5 : c + q ≤ n1) (hn : n0 < 2 ^ 31 ∧ n1 < 2 ^ 31) (hlk : Cond.methodLink own idx arraycopyName ∈ T0) (hnat : Cond.native arraycopyName ∈ T0) (hst : Cond.static arraycopyName ∈ T0) (hini : Cond.initialized "java/lang/System" ∈ T0) (hf : 1 ≤ fr) (hlc : (S.map fun v => v.category).sum + (nativeFrameWords "java/lang/System" "arraycopy" 5 + 11) ≤ lo) (d : decode cc pc = .ok (.invokestatic idx, 3))
    (k : ca_G Γ nL (mcp h ks kd a c q) (pc + 3) L S) : ca_G Γ nL h pc L (.int m :: .int dp :: .ref kd :: .int sp :: .ref ks :: S) := by
  subst ea; subst ec; subst eq
  have la : a < 2 ^ 31 := by omega
  have lc : c < 2 ^ 31 := by omega
  have lq : q < 2 ^ 31 := by omega
  refine g_acopy o hk0 hk1 (nI_pos la) (nI_pos lc) (nI_pos lq) (by rw [nI_clamp la, nI_clamp lq]; exact h4) (by rw [nI_clamp lc, nI_clamp lq]; exact h5) hlk hnat hst hini hf hlc d ?_
  rw [nI_clamp la, nI_clamp lc, nI_clamp lq]
  exact k
/-- a value gets a name -/
theorem g_topi {x : Int32} (k : ∀ z : Int32, z = x → ca_G Γ nL h pc L (.int z :: S)) : ca_G Γ nL h pc L (.int x :: S) := k x rfl
theorem g_eqi {x z : Int32} (e : x = z) (k : ca_G Γ nL h pc L (.int z :: S)) : ca_G Γ nL h pc L (.int x :: S) := by rw [e]; exact k
theorem g_mem {h2 : Mem} (e : h = h2) (k : ca_G Γ nL h2 pc L S) : ca_G Γ nL h pc L S := by rw [e]; exact k
end GForms
theorem Ct.post {y : MethodName} {cc : ByteArray} {nL : Nat} {ret : Option FieldType} {fr lo : Nat} {as : List Value} {h : Mem} {Po Po2 : Option Value → Mem → Prop} (K : Ct y cc nL ret fr lo as h Po) (hp : ∀ v h2, Po v h2 → Po2 v h2) : Ct y cc nL ret fr lo as h Po2 := by
  intro l κ
  have H := K l κ
  unfold Met at H ⊢
  intro p e ha hc hk s m args below hf hap hpc ht
  obtain ⟨k, o, h1, h2, h3, ⟨v, h', e1, e2, e3⟩, h5⟩ := H p e ha hc hk s m args below hf hap hpc ht
  exact ⟨k, o, h1, h2, h3, ⟨v, h', e1, hp _ _ e2, e3⟩, h5⟩
def bI (p : Prop) [Decidable p] : Int32 := if p then 1 else 0
theorem bI_0 {p : Prop} [Decidable p] : bI p = 0 ↔ ¬ p := by unfold bI; split <;> simp_all
theorem bI_n0 {p : Prop} [Decidable p] : ¬ bI p = 0 ↔ p := by unfold bI; split <;> simp_all
theorem bI_t {p : Prop} [Decidable p] (h : p) : (1 : Int32) = bI p := by unfold bI; rw [if_pos h]
theorem bI_f {p : Prop} [Decidable p] (h : ¬ p) : (0 : Int32) = bI p := by unfold bI; rw [if_neg h]
theorem bI_b {p : Prop} [Decidable p] : narrow .boolean (.int (bI p)) = .int (bI p) := by unfold bI; split <;> rfl
/-- x lies from a to b -/
abbrev rng (x : Int32) (a b : Int) : Prop := a ≤ x.toInt ∧ x.toInt ≤ b
theorem rng_of {x : Int32} {b : Nat} (h : rng x 0 b) (hb : b < 2 ^ 31) : ∃ j : Nat, j ≤ b ∧ x = nI j := by
  refine ⟨x.toInt.toNat, by unfold rng at h; omega, ?_⟩
  apply Int32.toInt_inj.mp
  unfold rng at h
  rw [nI_toInt (by omega)]
  omega
theorem rng_nI {j b : Nat} (h : j ≤ b) (hb : b < 2 ^ 31) : rng (nI j) 0 b := by
  unfold rng
  rw [nI_toInt (by omega)]
  omega
/-! ===== Int32 by its bits: bt x i ===== -/
def bt (x : Int32) (i : Nat) : Bool := x.toBitVec.getLsbD i
theorem b_ext {x y : Int32} (h : ∀ i, i < 32 → bt x i = bt y i) : x = y := Int32.toBitVec_inj.mp (BitVec.eq_of_getLsbD_eq (fun i hi => h i hi))
theorem b_or (x y : Int32) (i : Nat) : bt (x ||| y) i = (bt x i || bt y i) := by unfold bt; rw [Int32.toBitVec_or, BitVec.getLsbD_or]
theorem b_and (x y : Int32) (i : Nat) : bt (x &&& y) i = (bt x i && bt y i) := by unfold bt; rw [Int32.toBitVec_and, BitVec.getLsbD_and]
theorem b_xor (x y : Int32) (i : Nat) : bt (x ^^^ y) i = (bt x i ^^ bt y i) := by unfold bt; rw [Int32.toBitVec_xor, BitVec.getLsbD_xor]
theorem b_big {x : Int32} {i : Nat} (h : 32 ≤ i) : bt x i = false := BitVec.getLsbD_of_ge _ _ h
theorem b_255 (i : Nat) : bt 255 i = decide (i < 8) := by
  rcases Nat.lt_or_ge i 32 with h | h
  · exact (by decide +kernel : ∀ i, i < 32 → bt 255 i = decide (i < 8)) i h
  · rw [b_big h, decide_eq_false (by omega)]
theorem b_65535 (i : Nat) : bt 65535 i = decide (i < 16) := by
  rcases Nat.lt_or_ge i 32 with h | h
  · exact (by decide +kernel : ∀ i, i < 32 → bt 65535 i = decide (i < 16)) i h
  · rw [b_big h, decide_eq_false (by omega)]
theorem b_m1 : ∀ i, i < 32 → bt (-1) i = true := by decide +kernel
theorem b_0 (i : Nat) : bt 0 i = false := BitVec.getLsbD_zero
theorem s_l : ∀ n, n < 32 → ((nI n &&& 31).toBitVec.smod 32).toNat = n := by decide +kernel
theorem s_u : ∀ n, n < 32 → (((nI n).toUInt32 &&& Int32.toUInt32 31).toBitVec % 32).toNat = n := by decide +kernel
theorem b_shl (n : Nat) (hn : n < 32) (x : Int32) {i : Nat} (hi : i < 32) : bt (x <<< (nI n &&& 31)) i = (decide (n ≤ i) && bt x (i - n)) := by
  unfold bt
  rw [Int32.toBitVec_shiftLeft]
  show (x.toBitVec <<< ((nI n &&& 31).toBitVec.smod 32).toNat).getLsbD i = _
  rw [s_l n hn, BitVec.getLsbD_shiftLeft]
  rcases Nat.lt_or_ge i n with h | h
  · simp [h, Nat.not_le.mpr h]
  · simp [hi, h, Nat.not_lt.mpr h]
theorem b_ushr (n : Nat) (hn : n < 32) (x : Int32) (i : Nat) : bt ((x.toUInt32 >>> ((nI n).toUInt32 &&& Int32.toUInt32 31)).toInt32) i = bt x (n + i) := by
  show (x.toUInt32 >>> ((nI n).toUInt32 &&& Int32.toUInt32 31)).toBitVec.getLsbD i = x.toUInt32.toBitVec.getLsbD (n + i)
  rw [UInt32.toBitVec_shiftRight]
  show (x.toUInt32.toBitVec >>> (((nI n).toUInt32 &&& Int32.toUInt32 31).toBitVec % 32).toNat).getLsbD i = _
  rw [s_u n hn, BitVec.getLsbD_ushiftRight]
theorem b_sshr (n : Nat) (hn : n < 32) (x : Int32) {i : Nat} (hi : i < 32) : bt (x >>> (nI n &&& 31)) i = if n + i < 32 then bt x (n + i) else bt x 31 := by
  unfold bt
  rw [Int32.toBitVec_shiftRight]
  show (x.toBitVec.sshiftRight ((nI n &&& 31).toBitVec.smod 32).toNat).getLsbD i = _
  rw [s_l n hn, BitVec.getLsbD_sshiftRight, BitVec.msb_eq_getLsbD_last]
  simp [hi]
theorem b_shl8 (x : Int32) {i : Nat} (hi : i < 32) : bt (x <<< ((8 : Int32) &&& 31)) i = (decide (8 ≤ i) && bt x (i - 8)) := b_shl 8 (by omega) x hi
theorem b_shl16 (x : Int32) {i : Nat} (hi : i < 32) : bt (x <<< ((16 : Int32) &&& 31)) i = (decide (16 ≤ i) && bt x (i - 16)) := b_shl 16 (by omega) x hi
theorem b_shl24 (x : Int32) {i : Nat} (hi : i < 32) : bt (x <<< ((24 : Int32) &&& 31)) i = (decide (24 ≤ i) && bt x (i - 24)) := b_shl 24 (by omega) x hi
theorem b_sshr8 (x : Int32) {i : Nat} (hi : i < 32) : bt (x >>> ((8 : Int32) &&& 31)) i = if 8 + i < 32 then bt x (8 + i) else bt x 31 := b_sshr 8 (by omega) x hi
/-! ===== numbers ===== -/
theorem ltN (x : Int32) (n : Nat) (hn : n < 2 ^ 31) : x < nI n ↔ x.toInt < n := by rw [Int32.lt_iff_toInt_lt, nI_toInt hn]
theorem leN (x : Int32) (n : Nat) (hn : n < 2 ^ 31) : x ≤ nI n ↔ x.toInt ≤ n := by rw [Int32.le_iff_toInt_le, nI_toInt hn]
theorem geN (x : Int32) (n : Nat) (hn : n < 2 ^ 31) : nI n ≤ x ↔ (n : Int) ≤ x.toInt := by rw [Int32.le_iff_toInt_le, nI_toInt hn]
theorem gtN (x : Int32) (n : Nat) (hn : n < 2 ^ 31) : nI n < x ↔ (n : Int) < x.toInt := by rw [Int32.lt_iff_toInt_lt, nI_toInt hn]
theorem eqN (x : Int32) (n : Nat) (hn : n < 2 ^ 31) : x = nI n ↔ x.toInt = n := by rw [← Int32.toInt_inj, nI_toInt hn]
theorem lt0 (x : Int32) : x < 0 ↔ x.toInt < 0 := ltN x 0 (by decide)
theorem ge0 (x : Int32) : 0 ≤ x ↔ 0 ≤ x.toInt := geN x 0 (by decide)
theorem ix (a k b : Nat) : nI a * nI k + nI b = nI (a * k + b) := by rw [pk_mul, nI_add]
theorem ix2 (a k b : Nat) : nI k * nI a + nI b = nI (k * a + b) := by rw [pk_mul, nI_add]
theorem bt_1 (i : Nat) : bt 1 i = decide (i = 0) := by
  by_cases h : i < 32
  · revert i
    decide +kernel
  · rw [b_big (by omega)]
    simp
    omega
theorem bI_of_bool (b : Bool) : (if b then (1 : Int32) else 0) = bI (b = true) := rfl
theorem has_u (x : Int32) {k : Nat} (hk : k < 32) : jushr x (nI k) &&& 1 = bI (bt x k = true) := by
  apply b_ext
  intro i hi
  rw [b_and, bt_1]
  unfold jushr
  rw [b_ushr k hk x i]
  unfold bI
  by_cases h0 : i = 0
  · subst h0
    by_cases hb : bt x k = true
    · rw [if_pos hb, bt_1]; simp [hb]
    · rw [if_neg hb, b_0]; simp at hb; simp [hb]
  · split
    · rw [bt_1]; simp [h0]
    · rw [b_0]; simp [h0]
theorem has_s (x : Int32) {k : Nat} (hk : k < 32) : jshr x (nI k) &&& 1 = bI (bt x k = true) := by
  apply b_ext
  intro i hi
  rw [b_and, bt_1]
  unfold jshr
  rw [b_sshr k hk x hi]
  unfold bI
  by_cases h0 : i = 0
  · subst h0
    simp only [Nat.add_zero, if_pos hk]
    by_cases hb : bt x k = true
    · rw [if_pos hb, bt_1]; simp [hb]
    · rw [if_neg hb, b_0]; simp at hb; simp [hb]
  · split
    · split
      · rw [bt_1]; simp [h0]
      · rw [b_0]; simp [h0]
    · split
      · rw [bt_1]; simp [h0]
      · rw [b_0]; simp [h0]
