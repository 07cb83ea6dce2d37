/-! THE ABSTRACT MACHINE IS SOUND: what it does, the machine does (by the kit's rows). First: what the rows of the tables must be. -/
def amT (c : Nat) : u_T := match amC[c]? with
  | some q => q.2.1
  | none => TX0
def amTN (c : Nat) : Nat := (amFTt.getD c []).length
def amStrF (j : Nat) : String × String := if j = 0 then ("value", "[B") else ("coder", "B")
def FLw (q : Nat × Nat × Nat × Nat × Bool) : Cond :=
  if q.2.2.1 = 100 then .fieldLink (amOwn q.1) q.2.1 "java/lang/String" (amStrF q.2.2.2.1).1 (amStrF q.2.2.2.1).2
  else if q.2.2.2.2 then .fieldLinkNest (amOwn q.1) q.2.1 (amT q.2.2.1 q.2.2.2.1).1 (amT q.2.2.1 q.2.2.2.1).2.1 (amT q.2.2.1 q.2.2.2.1).2.2.1 "IceHouse"
  else .fieldLink (amOwn q.1) q.2.1 (amT q.2.2.1 q.2.2.2.1).1 (amT q.2.2.1 q.2.2.2.1).2.1 (amT q.2.2.1 q.2.2.2.1).2.2.1
def MLw (q : Nat × Nat × Nat × Bool × Bool) : Cond := if q.2.2.2.1 then .methodLinkNest (amOwn q.1) q.2.1 (amYn q.2.2.1) "IceHouse" else .methodLink (amOwn q.1) q.2.1 (amYn q.2.2.1)
def amGood : List Cond := lw_tbl.filter goodWord
def amNest : List Cond := (amFL.filter (fun q => q.2.2.2.2)).map FLw ++ (amML.filter (fun q => q.2.2.2.1)).map MLw
/-- what is checked of a row beside its decoding -/
def aRowB (o : Nat) (r : aRow) : Bool :=
  let len := r.2.2.1; let lk := r.2.2.2.1; let u := r.2.2.2.2.1; let v := r.2.2.2.2.2.1; let c := r.2.2.2.2.2.2
  match r.2.1 with
  | .iconst n => decide (Int32.ofInt n = c) && decide (len = 1)
  | .bipush n => decide ((Int8.ofInt n).toInt32 = c) && decide (len = 2)
  | .sipush n => decide ((Int16.ofInt n).toInt32 = c) && decide (len = 3)
  | .ldc i => decide (len = 2) && (if u = 0 then decide (amCI[lk]? = some (o, i, c)) else decide (amSL[lk]? = some (o, i, v)))
  | .ldc_w i => decide (len = 3) && decide (amCI[lk]? = some (o, i, c))
  | .ldc2_w i => decide (len = 3) && decide ((amCL[lk]?).map (fun q => (q.1, q.2.1)) = some (o, i))
  | .iload _ | .lload _ | .aload _ | .istore _ | .lstore _ | .astore _ => decide (len = 2)
  | .iinc _ n => decide (len = 3) && decide (Int32.ofInt n = c)
  | .goto f => decide (len = 3) && decide ((r.1 : Int) + f = (u : Int))
  | .if_icmp _ f => decide (len = 3) && decide ((r.1 : Int) + f = (u : Int))
  | .ifCond _ f => decide (len = 3) && decide ((r.1 : Int) + f = (u : Int))
  | .tableswitch d lo hi fs => decide ((r.1 : Int) + d = (v : Int)) && decide (((amSWt.getD u []).map (fun q => (q.1.toInt, (q.2 : Int)))) = (fs.toList.zipIdx.map (fun q => (lo + (q.2 : Int), (r.1 : Int) + q.1)))) && decide (lo + (fs.size : Int) = hi + 1)
  | .lookupswitch d ps => decide ((r.1 : Int) + d = (v : Int)) && decide (((amSWt.getD u []).map (fun q => (q.1.toInt, (q.2 : Int)))) = (ps.toList.map (fun q => (q.1, (r.1 : Int) + q.2)))) && (ps.toList.zip (ps.toList.drop 1)).all (fun (a, next) => a.1 < next.1)
  | .getfield i => decide (len = 3) && decide ((amFL[lk]?).map (fun q => (q.1, q.2.1, q.2.2.1, q.2.2.2.1)) = some (o, i, u, v)) && decide (if u = 100 then v < 2 else v < amTN u)
  | .putfield i => decide (len = 3) && decide ((amFL[lk]?).map (fun q => (q.1, q.2.1, q.2.2.1, q.2.2.2.1)) = some (o, i, u, v)) && decide (u ≠ 100 ∧ v < amTN u ∧ (amT u v).2.2.2 = false ∧ (amFT u v = 0 → parseFieldDescriptor (amT u v).2.2.1 = some .int) ∧ (amFT u v = 1 → parseFieldDescriptor (amT u v).2.2.1 = some .long))
  | .getstatic i => decide (len = 3) && decide (amST[lk]? = some (o, i, u, v, c))
  | .invokevirtual i => decide (len = 3) && decide ((amML[lk]?).map (fun q => (q.1, q.2.1, q.2.2.1, q.2.2.2.2)) = some (o, i, u, false)) && decide ((amInf u).2.2.2.2.1 = v)
  | .invokestatic i => decide (u = 999) || (decide (len = 3) && decide ((amML[lk]?).map (fun q => (q.1, q.2.1, q.2.2.1, q.2.2.2.2)) = some (o, i, u, true)) && decide ((amInf u).2.2.2.2.1 = v))
  | .invokespecial _ | .new _ | .athrow => true
  | _ => decide (len = 1)
def aRowsB (y : Nat) : Bool := (amRw y).all (fun r => decide (decode (amBy y) r.1 = .ok (r.2.1, r.2.2.1)) && aRowB (amInf y).1 r)
