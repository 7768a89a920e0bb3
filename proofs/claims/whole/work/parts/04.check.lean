/-! each instruction of the abstract code is the one that the bytes hold, its numbers are those of the links -/
def pcO (es : List XE) (k : Nat) : Option Nat := (es[k]?).map (fun e => e.1)
def okF (es : List XE) (k : Nat) (e : XE) : Bool := decide (pcO es (k + 1) = some (e.1 + e.2.1))
def okT (es : List XE) (e : XE) (off : Int) (t : Nat) : Bool := match pcO es t with
  | some q => decide ((e.1 : Int) + off = (q : Int))
  | none => false
def okC (m idx : Nat) (ns : List Nat) : Bool := match ns with
  | [m', n, j, rt, _, _, kd] => (match mT[j]? with
    | some (o, i, y, _, nest) => decide (o = mO m) && decide (i = idx) && decide (y = m') && decide (m' < 264) && (match kd with
      | 0 => decide ((mW m').2.2.2.2 = 1) && decide (n = mN m') && decide (rt = 0) && decide (nest = 0)
      | 1 => decide ((mW m').2.2.2.2 = 0) && decide (n = mN m' + 1) && decide (rt = mO m' + 1) && decide (mO m' < 13) && decide (nest = 0)
      | 2 => decide ((mW m').2.2.2.2 = 2) && decide (n = mN m' + 1) && decide (rt = mO m' + 1) && decide (mO m' < 13) && decide (nest = 0)
      | 3 => decide ((mW m').2.2.2.2 = 2) && decide (n = mN m' + 1) && decide (rt = mO m' + 1) && decide (mO m' < 13) && decide (nest = 1)
      | _ => false)
    | none => false)
  | _ => false
def okS (m idx : Nat) (q j : Nat) : Bool := match mT[j]? with
  | some (o, i, y, _, nest) => decide (o = mO m) && decide (i = idx) && decide (y = q) && decide (nest = 0)
  | none => false
def okI (m : Nat) (es : List XE) (k : Nat) (e : XE) : Bool := match e.2.2.1 with
  | .goto off => (match e.2.2.2.1 with
    | [t] => okT es e off t && decide (e.2.1 = 3)
    | _ => false)
  | .ifCond _ off => (match e.2.2.2.1 with
    | [t] => okT es e off t && okF es k e && decide (e.2.1 = 3)
    | _ => false)
  | .if_icmp _ off => (match e.2.2.2.1 with
    | [t] => okT es e off t && okF es k e && decide (e.2.1 = 3)
    | _ => false)
  | .ifnonnull off => (match e.2.2.2.1 with
    | [t] => okT es e off t && okF es k e && decide (e.2.1 = 3)
    | _ => false)
  | .tableswitch df lo hi offs => (match e.2.2.2.1 with
    | td :: ts => okT es e df td && decide (e.2.2.2.2 = (List.range ts.length).map (fun (i : Nat) => lo + (i : Int))) && decide (hi + 1 = lo + (ts.length : Int)) && (List.range ts.length).all (fun i => match offs[i]?, ts[i]? with
      | some of, some t => okT es e of t
      | _, _ => false)
    | _ => false)
  | .lookupswitch df ps => (match e.2.2.2.1 with
    | td :: ts => okT es e df td && (ps.toList.zip (ps.toList.drop 1)).all (fun (a, next) => a.1 < next.1) && decide (e.2.2.2.2 = ps.toList.map (fun q => q.1)) && decide (ts.length = ps.toList.length) && (ps.toList.zip ts).all (fun q => okT es e q.1.2 q.2)
    | _ => false)
  | .ldc idx => okF es k e && decide (e.2.1 = 2) && (match e.2.2.2.1, e.2.2.2.2 with
    | [0, j], [v] => (match kT[j]? with
      | some (o, i, w, _, t) => decide (o = mO m) && decide (i = idx) && decide (w = v) && decide (t = 0)
      | none => false)
    | [1], [] => decide (idx = 77) && decide (mO m = 9)
    | _, _ => false)
  | .ldc_w idx => okF es k e && decide (e.2.1 = 3) && (match e.2.2.2.1, e.2.2.2.2 with
    | [0, j], [v] => (match kT[j]? with
      | some (o, i, w, _, t) => decide (o = mO m) && decide (i = idx) && decide (w = v) && decide (t = 0)
      | none => false)
    | _, _ => false)
  | .ldc2_w idx => okF es k e && decide (e.2.1 = 3) && (match e.2.2.2.1, e.2.2.2.2 with
    | [j], [v] => (match kT[j]? with
      | some (o, i, w, _, t) => decide (o = mO m) && decide (i = idx) && decide (w = v) && decide (t = 1)
      | none => false)
    | _, _ => false)
  | .getfield idx => okF es k e && decide (e.2.1 = 3) && (match e.2.2.2.1, e.2.2.2.2 with
    | [ci, j, kd], [v] => (match fT[j]? with
      | some (o, i, c, f, _) => decide (o = mO m) && decide (i = idx) && decide (c = ci) && decide ((f : Int) = v) && decide (kd = xKd ci f)
      | none => false)
    | _, _ => false)
  | .putfield idx => okF es k e && decide (e.2.1 = 3) && (match e.2.2.2.1, e.2.2.2.2 with
    | [ci, j, kd], [v] => (match fT[j]? with
      | some (o, i, c, f, _) => decide (o = mO m) && decide (i = idx) && decide (c = ci) && decide ((f : Int) = v) && decide (kd = xKd ci f) && (!((xT ci f).2.2.2) || (decide ((mY m).name = "<init>") && decide ((xT ci f).1 = cn (mO m))))
      | none => false)
    | _, _ => false)
  | .new idx => okF es k e && decide (e.2.1 = 3) && (match e.2.2.2.1 with
    | [ci, j, nf] => (match cT[j]? with
      | some (o, i, c, _) => decide (o = mO m) && decide (i = idx) && decide (c = ci) && decide (ci < 13) && decide (nf = xNf ci)
      | none => false)
    | _ => false)
  | .anewarray idx => okF es k e && decide (e.2.1 = 3) && (match e.2.2.2.1 with
    | [tg, j] => (match cT[j]? with
      | some (o, i, c, _) => decide (o = mO m) && decide (i = idx) && (decide (tg = 105 ∧ c = 3) || decide (tg = 106 ∧ c = 7))
      | none => false)
    | _ => false)
  | .checkcast idx => okF es k e && decide (e.2.1 = 3) && decide (idx = 317) && decide (mO m = 13)
  | .invokestatic idx => okF es k e && decide (e.2.1 = 3) && (match e.2.2.2.1 with
    | [9001, j] => okS m idx 9001 j
    | [9006, j] => okS m idx 9006 j
    | [9007, j] => okS m idx 9007 j
    | ns => okC m idx ns && (match ns with
      | [_, _, _, _, _, _, 0] => true
      | _ => false))
  | .invokevirtual idx => okF es k e && decide (e.2.1 = 3) && (match e.2.2.2.1 with
    | [9002, _] => decide (idx = 316) && decide (mO m = 13)
    | [9003, j] => okS m idx 9003 j
    | [9004, j] => okS m idx 9004 j
    | ns => okC m idx ns && (match ns with
      | [_, _, _, _, _, _, 1] => true
      | _ => false))
  | .invokespecial idx => okF es k e && decide (e.2.1 = 3) && (match e.2.2.2.1 with
    | [9005, j] => okS m idx 9005 j
    | ns => okC m idx ns && (match ns with
      | [_, _, _, _, _, _, 2] => true
      | [_, _, _, _, _, _, 3] => true
      | _ => false))
  | .ireturn => decide (e.2.1 = 1) && (match e.2.2.2.1 with
    | [0] => decide (mR m = some .int)
    | [1] => decide (mR m = some .boolean)
    | _ => false)
  | .lreturn => decide (e.2.1 = 1) && decide (mR m = some .long)
  | .areturn => decide (e.2.1 = 1) && (match mR m with
    | some (.object _) => true
    | some (.array _) => true
    | _ => false)
  | .return_ => decide (e.2.1 = 1) && decide (mR m = none)
  | .iinc _ _ => okF es k e && decide (e.2.1 = 3)
  | .bipush v => okF es k e && decide (e.2.1 = 2) && decide ((Int8.ofInt v).toInt32 = Int32.ofInt v)
  | .sipush v => okF es k e && decide (e.2.1 = 3) && decide ((Int16.ofInt v).toInt32 = Int32.ofInt v)
  | .iload _ => okF es k e && decide (e.2.1 = 2)
  | .lload _ => okF es k e && decide (e.2.1 = 2)
  | .aload _ => okF es k e && decide (e.2.1 = 2)
  | .istore _ => okF es k e && decide (e.2.1 = 2)
  | .lstore _ => okF es k e && decide (e.2.1 = 2)
  | .astore _ => okF es k e && decide (e.2.1 = 2)
  | .newarray _ => okF es k e && decide (e.2.1 = 2)
  | _ => okF es k e && decide (e.2.1 = 1)
def chkK (m k : Nat) : Bool := match (mE m)[k]? with
  | some e => decide (decode (mC m) e.1 = .ok (e.2.2.1, e.2.1)) && okI m (mE m) k e
  | none => false
def chkM (m : Nat) : Bool := (List.range (mE m).length).all (chkK m)
theorem chk_0 : ((List.range 16).drop 0).all chkM = true := by decide +kernel
theorem chk_1 : ((List.range 31).drop 16).all chkM = true := by decide +kernel
theorem chk_2 : ((List.range 40).drop 31).all chkM = true := by decide +kernel
theorem chk_3 : ((List.range 48).drop 40).all chkM = true := by decide +kernel
theorem chk_4 : ((List.range 62).drop 48).all chkM = true := by decide +kernel
theorem chk_5 : ((List.range 75).drop 62).all chkM = true := by decide +kernel
theorem chk_6 : ((List.range 92).drop 75).all chkM = true := by decide +kernel
theorem chk_7 : ((List.range 108).drop 92).all chkM = true := by decide +kernel
theorem chk_8 : ((List.range 119).drop 108).all chkM = true := by decide +kernel
theorem chk_9 : ((List.range 134).drop 119).all chkM = true := by decide +kernel
theorem chk_10 : ((List.range 146).drop 134).all chkM = true := by decide +kernel
theorem chk_11 : ((List.range 161).drop 146).all chkM = true := by decide +kernel
theorem chk_12 : ((List.range 172).drop 161).all chkM = true := by decide +kernel
theorem chk_13 : ((List.range 183).drop 172).all chkM = true := by decide +kernel
theorem chk_14 : ((List.range 198).drop 183).all chkM = true := by decide +kernel
theorem chk_15 : ((List.range 209).drop 198).all chkM = true := by decide +kernel
theorem chk_16 : ((List.range 225).drop 209).all chkM = true := by decide +kernel
theorem chk_17 : ((List.range 235).drop 225).all chkM = true := by decide +kernel
theorem chk_18 : ((List.range 244).drop 235).all chkM = true := by decide +kernel
theorem chk_19 : ((List.range 250).drop 244).all chkM = true := by decide +kernel
theorem chk_20 : ((List.range 259).drop 250).all chkM = true := by decide +kernel
theorem chk_21 : ((List.range 264).drop 259).all chkM = true := by decide +kernel
theorem chk_all : ∀ m, m < 264 → chkM m = true := by
  intro m hm
  have key : ∀ a b, ((List.range b).drop a).all chkM = true → a ≤ m → m < b → chkM m = true := by
    intro a b h h1 h2
    refine List.all_eq_true.mp h m ?_
    have : ((List.range b).drop a)[m - a]? = some m := by
      rw [List.getElem?_drop, List.getElem?_range (by omega)]
      congr 1
      omega
    exact List.mem_of_getElem? this
  by_cases h0 : m < 16
  · exact key 0 16 chk_0 (by omega) h0
  by_cases h1 : m < 31
  · exact key 16 31 chk_1 (by omega) h1
  by_cases h2 : m < 40
  · exact key 31 40 chk_2 (by omega) h2
  by_cases h3 : m < 48
  · exact key 40 48 chk_3 (by omega) h3
  by_cases h4 : m < 62
  · exact key 48 62 chk_4 (by omega) h4
  by_cases h5 : m < 75
  · exact key 62 75 chk_5 (by omega) h5
  by_cases h6 : m < 92
  · exact key 75 92 chk_6 (by omega) h6
  by_cases h7 : m < 108
  · exact key 92 108 chk_7 (by omega) h7
  by_cases h8 : m < 119
  · exact key 108 119 chk_8 (by omega) h8
  by_cases h9 : m < 134
  · exact key 119 134 chk_9 (by omega) h9
  by_cases h10 : m < 146
  · exact key 134 146 chk_10 (by omega) h10
  by_cases h11 : m < 161
  · exact key 146 161 chk_11 (by omega) h11
  by_cases h12 : m < 172
  · exact key 161 172 chk_12 (by omega) h12
  by_cases h13 : m < 183
  · exact key 172 183 chk_13 (by omega) h13
  by_cases h14 : m < 198
  · exact key 183 198 chk_14 (by omega) h14
  by_cases h15 : m < 209
  · exact key 198 209 chk_15 (by omega) h15
  by_cases h16 : m < 225
  · exact key 209 225 chk_16 (by omega) h16
  by_cases h17 : m < 235
  · exact key 225 235 chk_17 (by omega) h17
  by_cases h18 : m < 244
  · exact key 235 244 chk_18 (by omega) h18
  by_cases h19 : m < 250
  · exact key 244 250 chk_19 (by omega) h19
  by_cases h20 : m < 259
  · exact key 250 259 chk_20 (by omega) h20
  by_cases h21 : m < 264
  · exact key 259 264 chk_21 (by omega) h21
  omega
