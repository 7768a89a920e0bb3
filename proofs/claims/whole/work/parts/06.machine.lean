/-! The abstract machine: ints are Ints (each stands for Int32.ofInt of it), cells have numbers, a slot of a cell is named by an Int. xR: the least predicate closed under one step, 'it comes to an end with post'. -/
abbrev XV : Type := Int ⊕ (Int64 ⊕ (Option Nat ⊕ Nat))
abbrev XI : Type := Nat → Int → Int
abbrev XL : Type := Nat → Int → Int64
abbrev XP : Type := Nat → Int → Option Nat
/-- references, shapes (tag, length), how many cells, the script and its length -/
abbrev XG : Type := XP × ((Nat → Nat × Nat) × (Nat × ((Int → Int) × Nat)))
abbrev XQ : Type := Option XV → XI → XL → XG → Prop
abbrev XX : Type := Nat → Nat → List XE → Nat → List XV → List XV → XI → XL → XG → Nat → Nat → XQ → Prop
abbrev xi (a : Int) : XV := Sum.inl a
abbrev xl (a : Int64) : XV := Sum.inr (Sum.inl a)
abbrev xr (a : Option Nat) : XV := Sum.inr (Sum.inr (Sum.inl a))
abbrev xt (a : Nat) : XV := Sum.inr (Sum.inr (Sum.inr a))
abbrev xrg (a : Int) : Prop := -2147483648 ≤ a ∧ a ≤ 2147483647
def xup {α : Type} (f : Int → α) (j : Int) (v : α) : Int → α := fun i => if i = j then v else f i
def xsc {α : Type} (F : Nat → α) (c : Nat) (f : α) : Nat → α := fun i => cond (Nat.beq i c) f (F i)
def xwr {α : Type} (F : Nat → Int → α) (c : Nat) (j : Int) (v : α) : Nat → Int → α := xsc F c (xup (F c) j v)
def xcp (f g : Int → Int) (sp dp n : Int) : Int → Int := fun j => if dp ≤ j ∧ j < dp + n then f (sp + (j - dp)) else g j
def xcat1 (v : XV) : Bool := match v with
  | .inr (.inl _) => false
  | _ => true
def xwds (st : List XV) : Nat := match st with
  | [] => 0
  | .inr (.inl _) :: r => xwds r + 2
  | _ :: r => xwds r + 1
/-- a value of one word into a local: a long ahead of it is lost -/
def xst1 (ls : List XV) (n : Nat) (v : XV) : List XV := match n with
  | 0 => ls.set 0 v
  | j + 1 => (match ls[j]? with
    | some (.inr (.inl _)) => (ls.set j (xt 0)).set (j + 1) v
    | _ => ls.set (j + 1) v)
def xst2 (ls : List XV) (n : Nat) (v : XV) : List XV := (xst1 ls n v).set (n + 1) (xt 0)
def xents (args : List XV) : List XV := match args with
  | [] => []
  | .inr (.inl x) :: r => xl x :: xt 0 :: xents r
  | v :: r => v :: xents r
def xent (n : Nat) (args : List XV) : List XV := xents args ++ List.replicate (n - (xents args).length) (xt 0)
def xbr (c : Jvm.ClassFile.Cond) (a b : Int) (T F : Prop) : Prop := match c with
  | .eq => (a = b → T) ∧ (¬ a = b → F)
  | .ne => (¬ a = b → T) ∧ (a = b → F)
  | .lt => (a < b → T) ∧ (b ≤ a → F)
  | .ge => (b ≤ a → T) ∧ (a < b → F)
  | .gt => (b < a → T) ∧ (a ≤ b → F)
  | .le => (a ≤ b → T) ∧ (b < a → F)
def xsw (a : Int) (F : Nat → Prop) (td : Nat) : List Int → List Nat → Prop
  | k :: ks, t :: ts => (a = k → F t) ∧ (¬ a = k → xsw a F td ks ts)
  | _, _ => F td
def xand (a b : Int) : Int := (Int32.ofInt a &&& Int32.ofInt b).toInt
def xior (a b : Int) : Int := (Int32.ofInt a ||| Int32.ofInt b).toInt
def xxor (a b : Int) : Int := (Int32.ofInt a ^^^ Int32.ofInt b).toInt
def xshl (a b : Int) : Int := (Int32.ofInt a <<< (Int32.ofInt b &&& 31)).toInt
def xshr (a b : Int) : Int := (Int32.ofInt a >>> (Int32.ofInt b &&& 31)).toInt
def xush (a b : Int) : Int := ((Int32.ofInt a).toUInt32 >>> ((Int32.ofInt b).toUInt32 &&& Int32.toUInt32 31)).toInt32.toInt
def xi2b (a : Int) : Int := (Int32.ofInt a).toInt8.toInt32.toInt
def xl2i (a : Int64) : Int := a.toInt32.toInt
def xlsh (a : Int64) (b : Int) : Int64 := a <<< ((Int32.ofInt b).toInt64 &&& 63)
def xlcm (a b : Int64) : Int := if b < a then 1 else if a = b then 0 else -1
/-- the text of the names -/
def xnm : List Int := [103, 117, 101, 115, 116, 32, 32, 115, 108, 105, 99, 101, 32, 32, 107, 105, 110, 100, 32, 32, 32, 115, 105, 122, 101, 32, 32, 32, 108, 105, 107, 101, 115, 32, 32, 119, 111, 114, 116, 104, 32, 32, 104, 97, 115, 32, 32, 32, 32, 114, 117, 101, 32, 32, 32, 32, 102, 114, 101, 101, 32, 32, 32, 98, 101, 115, 105, 100, 101, 32, 109, 105, 110, 101, 32, 32, 32, 116, 117, 114, 110, 32, 32, 32, 99, 97, 107, 101, 32, 32, 32, 116, 97, 107, 101, 32, 32, 32, 105, 102, 32, 32, 32, 32, 32, 110, 111, 116, 32, 32, 32, 32, 97, 110, 100, 32, 32, 32, 32, 111, 114, 32, 32, 32, 32, 32]
def xch (a : Int) : Int := xnm.getD a.toNat 0
def xtag (a : ArrayType) : Nat := match a with
  | .int => 101
  | .byte => 102
  | .boolean => 103
  | .long => 104
  | _ => 0
/-- a new cell -/
def xnewG (G : XG) (sh : Nat × Nat) : XG := (xsc G.1 G.2.2.1 (fun _ => none), (xsc G.2.1 G.2.2.1 sh, (G.2.2.1 + 1, G.2.2.2)))
def xcall (X : XX) (d m : Nat) (es : List XE) (k : Nat) (ns : List Nat) (ls st : List XV) (I : XI) (L : XL) (G : XG) (c s : Nat) (post : XQ) : Prop := match ns with
  | [m', n, _, rt, c1, s1, kd] => (n ≤ st.length ∧ (xents (st.take n).reverse).length ≤ mL m' ∧ (rt = 0 ∨ ∃ i, st[n - 1]? = some (xr (some i)) ∧ (G.2.1 i).1 = rt) ∧ kd ≤ 3) ∧ (1 ≤ d ∧ c1 ≤ c ∧ s1 ≤ s ∧ xwds (st.drop n) ≤ 8) ∧ ∃ Q : XQ, X (d - 1) m' (mE m') 0 (xent (mL m') (st.take n).reverse) [] I L G c1 s1 Q ∧ ∀ (r : Option XV) (I' : XI) (L' : XL) (G' : XG), Q r I' L' G' → X d m es (k + 1) ls (r.toList ++ st.drop n) I' L' G' (c - c1) (s - s1) post
  | _ => False
def xop (X : XX) (d m : Nat) (es : List XE) (k : Nat) (ins : Instr) (ns : List Nat) (vs : List Int) (ls st : List XV) (I : XI) (L : XL) (G : XG) (c s : Nat) (post : XQ) : Prop := match ins with
  | .iconst i => X d m es (k + 1) ls (xi i :: st) I L G c s post
  | .bipush i => X d m es (k + 1) ls (xi i :: st) I L G c s post
  | .sipush i => X d m es (k + 1) ls (xi i :: st) I L G c s post
  | .ldc _ => (match ns, vs with
    | [0, _], [v] => X d m es (k + 1) ls (xi v :: st) I L G c s post
    | [1], [] => X d m es (k + 1) ls (xt 1 :: st) I L G c s post
    | _, _ => False)
  | .ldc_w _ => (match ns, vs with
    | [0, _], [v] => X d m es (k + 1) ls (xi v :: st) I L G c s post
    | _, _ => False)
  | .ldc2_w _ => (match vs with
    | [v] => X d m es (k + 1) ls (xl (Int64.ofInt v) :: st) I L G c s post
    | _ => False)
  | .lconst i => X d m es (k + 1) ls (xl (Int64.ofNat i.val) :: st) I L G c s post
  | .aconst_null => X d m es (k + 1) ls (xr none :: st) I L G c s post
  | .iload n => (match ls[n]? with
    | some (.inl a) => X d m es (k + 1) ls (xi a :: st) I L G c s post
    | _ => False)
  | .iload_n n => (match ls[n.val]? with
    | some (.inl a) => X d m es (k + 1) ls (xi a :: st) I L G c s post
    | _ => False)
  | .lload n => (match ls[n]? with
    | some (.inr (.inl a)) => X d m es (k + 1) ls (xl a :: st) I L G c s post
    | _ => False)
  | .lload_n n => (match ls[n.val]? with
    | some (.inr (.inl a)) => X d m es (k + 1) ls (xl a :: st) I L G c s post
    | _ => False)
  | .aload n => (match ls[n]? with
    | some (.inr (.inr (.inl a))) => X d m es (k + 1) ls (xr a :: st) I L G c s post
    | _ => False)
  | .aload_n n => (match ls[n.val]? with
    | some (.inr (.inr (.inl a))) => X d m es (k + 1) ls (xr a :: st) I L G c s post
    | some (.inr (.inr (.inr 2))) => X d m es (k + 1) ls (xt 2 :: st) I L G c s post
    | _ => False)
  | .istore n => (match st with
    | .inl a :: r => cond (Nat.blt n ls.length) (X d m es (k + 1) (xst1 ls n (xi a)) r I L G c s post) False
    | _ => False)
  | .istore_n n => (match st with
    | .inl a :: r => cond (Nat.blt n.val ls.length) (X d m es (k + 1) (xst1 ls n.val (xi a)) r I L G c s post) False
    | _ => False)
  | .lstore n => (match st with
    | .inr (.inl a) :: r => cond (Nat.blt (n + 1) ls.length) (X d m es (k + 1) (xst2 ls n (xl a)) r I L G c s post) False
    | _ => False)
  | .lstore_n n => (match st with
    | .inr (.inl a) :: r => cond (Nat.blt (n.val + 1) ls.length) (X d m es (k + 1) (xst2 ls n.val (xl a)) r I L G c s post) False
    | _ => False)
  | .astore n => (match st with
    | .inr (.inr (.inl a)) :: r => cond (Nat.blt n ls.length) (X d m es (k + 1) (xst1 ls n (xr a)) r I L G c s post) False
    | _ => False)
  | .astore_n n => (match st with
    | .inr (.inr (.inl a)) :: r => cond (Nat.blt n.val ls.length) (X d m es (k + 1) (xst1 ls n.val (xr a)) r I L G c s post) False
    | _ => False)
  | .iinc n v => (match ls[n]? with
    | some (.inl a) => X d m es (k + 1) (xst1 ls n (xi (a + v))) st I L G c s post
    | _ => False)
  | .iadd => (match st with
    | .inl b :: .inl a :: r => X d m es (k + 1) ls (xi (a + b) :: r) I L G c s post
    | _ => False)
  | .isub => (match st with
    | .inl b :: .inl a :: r => X d m es (k + 1) ls (xi (a - b) :: r) I L G c s post
    | _ => False)
  | .imul => (match st with
    | .inl b :: .inl a :: r => X d m es (k + 1) ls (xi (a * b) :: r) I L G c s post
    | _ => False)
  | .idiv => (match st with
    | .inl b :: .inl a :: r => (xrg a ∧ xrg b ∧ ¬ b = 0) ∧ X d m es (k + 1) ls (xi (Int.tdiv a b) :: r) I L G c s post
    | _ => False)
  | .irem => (match st with
    | .inl b :: .inl a :: r => (xrg a ∧ xrg b ∧ ¬ b = 0) ∧ X d m es (k + 1) ls (xi (Int.tmod a b) :: r) I L G c s post
    | _ => False)
  | .iand => (match st with
    | .inl b :: .inl a :: r => X d m es (k + 1) ls (xi (xand a b) :: r) I L G c s post
    | _ => False)
  | .ior => (match st with
    | .inl b :: .inl a :: r => X d m es (k + 1) ls (xi (xior a b) :: r) I L G c s post
    | _ => False)
  | .ixor => (match st with
    | .inl b :: .inl a :: r => X d m es (k + 1) ls (xi (xxor a b) :: r) I L G c s post
    | _ => False)
  | .ishl => (match st with
    | .inl b :: .inl a :: r => X d m es (k + 1) ls (xi (xshl a b) :: r) I L G c s post
    | _ => False)
  | .ishr => (match st with
    | .inl b :: .inl a :: r => X d m es (k + 1) ls (xi (xshr a b) :: r) I L G c s post
    | _ => False)
  | .iushr => (match st with
    | .inl b :: .inl a :: r => X d m es (k + 1) ls (xi (xush a b) :: r) I L G c s post
    | _ => False)
  | .i2b => (match st with
    | .inl a :: r => X d m es (k + 1) ls (xi (xi2b a) :: r) I L G c s post
    | _ => False)
  | .i2l => (match st with
    | .inl a :: r => xrg a ∧ X d m es (k + 1) ls (xl (Int64.ofInt a) :: r) I L G c s post
    | _ => False)
  | .l2i => (match st with
    | .inr (.inl a) :: r => X d m es (k + 1) ls (xi (xl2i a) :: r) I L G c s post
    | _ => False)
  | .ladd => (match st with
    | .inr (.inl b) :: .inr (.inl a) :: r => X d m es (k + 1) ls (xl (a + b) :: r) I L G c s post
    | _ => False)
  | .lsub => (match st with
    | .inr (.inl b) :: .inr (.inl a) :: r => X d m es (k + 1) ls (xl (a - b) :: r) I L G c s post
    | _ => False)
  | .lmul => (match st with
    | .inr (.inl b) :: .inr (.inl a) :: r => X d m es (k + 1) ls (xl (a * b) :: r) I L G c s post
    | _ => False)
  | .ldiv => (match st with
    | .inr (.inl b) :: .inr (.inl a) :: r => (¬ b = 0) ∧ X d m es (k + 1) ls (xl (a / b) :: r) I L G c s post
    | _ => False)
  | .lrem => (match st with
    | .inr (.inl b) :: .inr (.inl a) :: r => (¬ b = 0) ∧ X d m es (k + 1) ls (xl (a - a / b * b) :: r) I L G c s post
    | _ => False)
  | .land => (match st with
    | .inr (.inl b) :: .inr (.inl a) :: r => X d m es (k + 1) ls (xl (a &&& b) :: r) I L G c s post
    | _ => False)
  | .lor => (match st with
    | .inr (.inl b) :: .inr (.inl a) :: r => X d m es (k + 1) ls (xl (a ||| b) :: r) I L G c s post
    | _ => False)
  | .lshl => (match st with
    | .inl b :: .inr (.inl a) :: r => X d m es (k + 1) ls (xl (xlsh a b) :: r) I L G c s post
    | _ => False)
  | .lcmp => (match st with
    | .inr (.inl b) :: .inr (.inl a) :: r => X d m es (k + 1) ls (xi (xlcm a b) :: r) I L G c s post
    | _ => False)
  | .dup => (match st with
    | v :: r => cond (xcat1 v) (X d m es (k + 1) ls (v :: v :: r) I L G c s post) False
    | _ => False)
  | .dup2 => (match st with
    | .inr (.inl x) :: r => X d m es (k + 1) ls (xl x :: xl x :: r) I L G c s post
    | v :: w :: r => cond (xcat1 v && xcat1 w) (X d m es (k + 1) ls (v :: w :: v :: w :: r) I L G c s post) False
    | _ => False)
  | .pop => (match st with
    | v :: r => cond (xcat1 v) (X d m es (k + 1) ls r I L G c s post) False
    | _ => False)
  | .goto _ => (match ns with
    | [t] => X d m es t ls st I L G c s post
    | _ => False)
  | .ifCond cn _ => (match ns, st with
    | [t], .inl a :: r => xrg a ∧ xbr cn a 0 (X d m es t ls r I L G c s post) (X d m es (k + 1) ls r I L G c s post)
    | _, _ => False)
  | .if_icmp cn _ => (match ns, st with
    | [t], .inl b :: .inl a :: r => (xrg a ∧ xrg b) ∧ xbr cn a b (X d m es t ls r I L G c s post) (X d m es (k + 1) ls r I L G c s post)
    | _, _ => False)
  | .ifnonnull _ => (match ns, st with
    | [t], .inr (.inr (.inl (some _))) :: r => X d m es t ls r I L G c s post
    | [_], .inr (.inr (.inl none)) :: r => X d m es (k + 1) ls r I L G c s post
    | _, _ => False)
  | .tableswitch _ _ _ _ => (match ns, st with
    | td :: ts, .inl a :: r => xrg a ∧ xsw a (fun t => X d m es t ls r I L G c s post) td vs ts
    | _, _ => False)
  | .lookupswitch _ _ => (match ns, st with
    | td :: ts, .inl a :: r => xrg a ∧ xsw a (fun t => X d m es t ls r I L G c s post) td vs ts
    | _, _ => False)
  | .getfield _ => (match ns, vs, st with
    | [ci, _, kd], [j], .inr (.inr (.inl (some i))) :: r => cond (Nat.beq (G.2.1 i).1 (ci + 1)) (match kd with
      | 0 => X d m es (k + 1) ls (xi (I i j) :: r) I L G c s post
      | 1 => X d m es (k + 1) ls (xi (I i j) :: r) I L G c s post
      | 2 => X d m es (k + 1) ls (xl (L i j) :: r) I L G c s post
      | _ => X d m es (k + 1) ls (xr (G.1 i j) :: r) I L G c s post) False
    | _, _, _ => False)
  | .putfield _ => (match ns, vs, st with
    | [ci, _, kd], [j], v :: .inr (.inr (.inl (some i))) :: r => cond (Nat.beq (G.2.1 i).1 (ci + 1)) (match kd, v with
      | 0, .inl a => X d m es (k + 1) ls r (xwr I i j a) L G c s post
      | 1, .inl a => (a = 0 ∨ a = 1) ∧ X d m es (k + 1) ls r (xwr I i j a) L G c s post
      | 2, .inr (.inl a) => X d m es (k + 1) ls r I (xwr L i j a) G c s post
      | 3, .inr (.inr (.inl a)) => X d m es (k + 1) ls r I L (xwr G.1 i j a, G.2) c s post
      | _, _ => False) False
    | _, _, _ => False)
  | .iaload => (match st with
    | .inl a :: .inr (.inr (.inl (some i))) :: r => cond (Nat.beq (G.2.1 i).1 101) ((0 ≤ a ∧ a < ((G.2.1 i).2 : Int)) ∧ X d m es (k + 1) ls (xi (I i a) :: r) I L G c s post) False
    | .inl a :: .inr (.inr (.inr 2)) :: r => (0 ≤ a ∧ a < (G.2.2.2.2 : Int)) ∧ X d m es (k + 1) ls (xi (G.2.2.2.1 a) :: r) I L G c s post
    | _ => False)
  | .baload => (match st with
    | .inl a :: .inr (.inr (.inl (some i))) :: r => cond (Nat.beq (G.2.1 i).1 102 || Nat.beq (G.2.1 i).1 103) ((0 ≤ a ∧ a < ((G.2.1 i).2 : Int)) ∧ X d m es (k + 1) ls (xi (I i a) :: r) I L G c s post) False
    | _ => False)
  | .laload => (match st with
    | .inl a :: .inr (.inr (.inl (some i))) :: r => cond (Nat.beq (G.2.1 i).1 104) ((0 ≤ a ∧ a < ((G.2.1 i).2 : Int)) ∧ X d m es (k + 1) ls (xl (L i a) :: r) I L G c s post) False
    | _ => False)
  | .aaload => (match st with
    | .inl a :: .inr (.inr (.inl (some i))) :: r => cond (Nat.beq (G.2.1 i).1 105 || Nat.beq (G.2.1 i).1 106) ((0 ≤ a ∧ a < ((G.2.1 i).2 : Int)) ∧ X d m es (k + 1) ls (xr (G.1 i a) :: r) I L G c s post) False
    | _ => False)
  | .iastore => (match st with
    | .inl v :: .inl a :: .inr (.inr (.inl (some i))) :: r => cond (Nat.beq (G.2.1 i).1 101) ((0 ≤ a ∧ a < ((G.2.1 i).2 : Int)) ∧ X d m es (k + 1) ls r (xwr I i a v) L G c s post) False
    | _ => False)
  | .bastore => (match st with
    | .inl v :: .inl a :: .inr (.inr (.inl (some i))) :: r => cond (Nat.beq (G.2.1 i).1 102) ((0 ≤ a ∧ a < ((G.2.1 i).2 : Int) ∧ -128 ≤ v ∧ v ≤ 127) ∧ X d m es (k + 1) ls r (xwr I i a v) L G c s post) (cond (Nat.beq (G.2.1 i).1 103) ((0 ≤ a ∧ a < ((G.2.1 i).2 : Int) ∧ (v = 0 ∨ v = 1)) ∧ X d m es (k + 1) ls r (xwr I i a v) L G c s post) False)
    | _ => False)
  | .lastore => (match st with
    | .inr (.inl v) :: .inl a :: .inr (.inr (.inl (some i))) :: r => cond (Nat.beq (G.2.1 i).1 104) ((0 ≤ a ∧ a < ((G.2.1 i).2 : Int)) ∧ X d m es (k + 1) ls r I (xwr L i a v) G c s post) False
    | _ => False)
  | .aastore => (match st with
    | .inr (.inr (.inl (some v))) :: .inl a :: .inr (.inr (.inl (some i))) :: r => cond ((Nat.beq (G.2.1 i).1 105 && Nat.beq (G.2.1 v).1 4) || (Nat.beq (G.2.1 i).1 106 && Nat.beq (G.2.1 v).1 8)) ((0 ≤ a ∧ a < ((G.2.1 i).2 : Int)) ∧ X d m es (k + 1) ls r I L (xwr G.1 i a (some v), G.2) c s post) False
    | _ => False)
  | .arraylength => (match st with
    | .inr (.inr (.inl (some i))) :: r => cond (Nat.ble 101 (G.2.1 i).1 && Nat.ble (G.2.1 i).1 106) (X d m es (k + 1) ls (xi ((G.2.1 i).2 : Int) :: r) I L G c s post) False
    | .inr (.inr (.inr 2)) :: r => X d m es (k + 1) ls (xi (G.2.2.2.2 : Int) :: r) I L G c s post
    | _ => False)
  | .new _ => (match ns with
    | [ci, _, nf] => (1 ≤ c ∧ nf ≤ s) ∧ X d m es (k + 1) ls (xr (some G.2.2.1) :: st) (xsc I G.2.2.1 (fun _ => 0)) (xsc L G.2.2.1 (fun _ => 0)) (xnewG G (ci + 1, 0)) (c - 1) (s - nf) post
    | _ => False)
  | .newarray ty => (match st with
    | .inl n :: r => cond (Nat.beq (xtag ty) 0) False ((0 ≤ n ∧ n ≤ 100000 ∧ 1 ≤ c ∧ n.toNat ≤ s) ∧ X d m es (k + 1) ls (xr (some G.2.2.1) :: r) (xsc I G.2.2.1 (fun _ => 0)) (xsc L G.2.2.1 (fun _ => 0)) (xnewG G (xtag ty, n.toNat)) (c - 1) (s - n.toNat) post)
    | _ => False)
  | .anewarray _ => (match ns, st with
    | [tg, _], .inl n :: r => (0 ≤ n ∧ n ≤ 100000 ∧ 1 ≤ c ∧ n.toNat ≤ s) ∧ X d m es (k + 1) ls (xr (some G.2.2.1) :: r) (xsc I G.2.2.1 (fun _ => 0)) (xsc L G.2.2.1 (fun _ => 0)) (xnewG G (tg, n.toNat)) (c - 1) (s - n.toNat) post
    | _, _ => False)
  | .checkcast _ => (match st with
    | .inr (.inr (.inl (some i))) :: r => cond (Nat.beq (G.2.1 i).1 101) (X d m es (k + 1) ls (xr (some i) :: r) I L G c s post) False
    | _ => False)
  | .invokestatic _ => (match ns with
    | [9001, _] => (match st with
      | .inl n :: .inl dp :: .inr (.inr (.inl (some i1))) :: .inl sp :: .inr (.inr (.inl (some i0))) :: r => cond (Nat.beq (G.2.1 i0).1 101 && Nat.beq (G.2.1 i1).1 101) ((0 ≤ sp ∧ 0 ≤ dp ∧ 0 ≤ n ∧ sp + n ≤ ((G.2.1 i0).2 : Int) ∧ dp + n ≤ ((G.2.1 i1).2 : Int) ∧ 1 ≤ d ∧ xwds r ≤ 8) ∧ X d m es (k + 1) ls r (xsc I i1 (xcp (I i0) (I i1) sp dp n)) L G c s post) False
      | _ => False)
    | [9006, _] => (match st with
      | .inl b :: .inl a :: r => (xrg a ∧ xrg b ∧ 1 ≤ d ∧ xwds r ≤ 8) ∧ X d m es (k + 1) ls (xi (if a < b then b else a) :: r) I L G c s post
      | _ => False)
    | [9007, _] => (match st with
      | .inl b :: .inl a :: r => (xrg a ∧ xrg b ∧ 1 ≤ d ∧ xwds r ≤ 8) ∧ X d m es (k + 1) ls (xi (if b < a then b else a) :: r) I L G c s post
      | _ => False)
    | _ => xcall X d m es k ns ls st I L G c s post)
  | .invokevirtual _ => (match ns with
    | [9002, _] => (match st with
      | .inr (.inr (.inl (some i))) :: r => cond (Nat.beq (G.2.1 i).1 101) ((1 ≤ d ∧ 1 ≤ c ∧ (G.2.1 i).2 ≤ s ∧ xwds r ≤ 8) ∧ X d m es (k + 1) ls (xr (some G.2.2.1) :: r) (xsc I G.2.2.1 (I i)) (xsc L G.2.2.1 (fun _ => 0)) (xnewG G (101, (G.2.1 i).2)) (c - 1) (s - (G.2.1 i).2) post) False
      | _ => False)
    | [9003, _] => (match st with
      | .inr (.inr (.inr 1)) :: r => (8 ≤ d ∧ xwds r ≤ 8) ∧ X d m es (k + 1) ls (xi 126 :: r) I L G c s post
      | _ => False)
    | [9004, _] => (match st with
      | .inl a :: .inr (.inr (.inr 1)) :: r => (8 ≤ d ∧ xwds r ≤ 8 ∧ 0 ≤ a ∧ a < 126) ∧ X d m es (k + 1) ls (xi (xch a) :: r) I L G c s post
      | _ => False)
    | _ => xcall X d m es k ns ls st I L G c s post)
  | .invokespecial _ => (match ns with
    | [9005, _] => (match st with
      | .inr (.inr (.inl (some _))) :: r => (1 ≤ d ∧ xwds r ≤ 8) ∧ X d m es (k + 1) ls r I L G c s post
      | _ => False)
    | _ => xcall X d m es k ns ls st I L G c s post)
  | .ireturn => (match ns, st with
    | [1], [.inl a] => (a = 0 ∨ a = 1) ∧ post (some (xi a)) I L G
    | [0], [.inl a] => post (some (xi a)) I L G
    | _, _ => False)
  | .lreturn => (match st with
    | [.inr (.inl a)] => post (some (xl a)) I L G
    | _ => False)
  | .areturn => (match st with
    | [.inr (.inr (.inl a))] => post (some (xr a)) I L G
    | _ => False)
  | .return_ => (match st with
    | [] => post none I L G
    | _ => False)
  | _ => False
def xstp (X : XX) (d m : Nat) (es : List XE) (k : Nat) (ls st : List XV) (I : XI) (L : XL) (G : XG) (c s : Nat) (post : XQ) : Prop := match es[k]? with
  | some e => xop X d m es k e.2.2.1 e.2.2.2.1 e.2.2.2.2 ls st I L G c s post
  | none => False
def xle (Y X : XX) : Prop := ∀ d m es k ls st I L G c s post, Y d m es k ls st I L G c s post → X d m es k ls st I L G c s post
def xclo (X : XX) : Prop := ∀ (Y : XX), xle Y X → ∀ d m es k ls st I L G c s post, xstp Y d m es k ls st I L G c s post → X d m es k ls st I L G c s post
def xR : XX := fun d m es k ls st I L G c s post => ∀ X : XX, xclo X → X d m es k ls st I L G c s post
theorem xR_in {d m : Nat} {es : List XE} {k : Nat} {ls st : List XV} {I : XI} {L : XL} {G : XG} {c s : Nat} {post : XQ} (h : xstp xR d m es k ls st I L G c s post) : xR d m es k ls st I L G c s post :=
  fun X hX => hX xR (fun _ _ _ _ _ _ _ _ _ _ _ _ hY => hY X hX) d m es k ls st I L G c s post h
/-- n steps at most, to the places where it stops -/
def xW (stop : Nat → Bool) : Nat → XX
  | 0 => xR
  | n + 1 => fun d m es k ls st I L G c s post => xstp (fun d' m' es' k' ls' st' I' L' G' c' s' post' => cond (stop k') (xR d' m' es' k' ls' st' I' L' G' c' s' post') (xW stop n d' m' es' k' ls' st' I' L' G' c' s' post')) d m es k ls st I L G c s post
theorem xW_R (stop : Nat → Bool) (n : Nat) : xle (xW stop n) xR := by
  induction n with
  | zero => exact fun _ _ _ _ _ _ _ _ _ _ _ _ h => h
  | succ n ih =>
    intro d m es k ls st I L G c s post h X hX
    refine hX _ ?_ d m es k ls st I L G c s post h
    intro d' m' es' k' ls' st' I' L' G' c' s' post' h'
    cases hs : stop k' with
    | true => simp only [hs, cond] at h'; exact h' X hX
    | false => simp only [hs, cond] at h'; exact ih _ _ _ _ _ _ _ _ _ _ _ _ h' X hX
