section AHD
abbrev ahC : Type := (Nat → Nat × Nat) × (Nat → Nat → Int32) × (Nat → Nat → Option Nat)
abbrev ahH : Type := Nat × Nat × ahC
abbrev ahM (ρ : Type) : Type := ahH → Option (ρ × Nat × Nat × ahC)
def ah_nx (h : ahH) (n u : Nat) (c : ahC) : ahH := (h.1 + n, h.2.1 + u, c)
def ah_kd (h : ahH) (a : Nat) : Nat := (h.2.2.1 a).1
def ah_ln (h : ahH) (a : Nat) : Nat := (h.2.2.1 a).2
def ah_I (h : ahH) : Nat → Nat → Int32 := h.2.2.2.1
def ah_P (h : ahH) : Nat → Nat → Option Nat := h.2.2.2.2
def ah_u2 {α : Type} (f : Nat → Nat → α) (a k : Nat) (x : α) : Nat → Nat → α := fun b j => if b = a ∧ j = k then x else f b j
def ah_ret {ρ : Type} (r : ρ) : ahM ρ := fun h => some (r, 0, 0, h.2.2)
def ah_no {ρ : Type} : ahM ρ := fun _ => none
def ah_retZ (x : Int32) : ahM Int32 := fun h => if x = 0 ∨ x = 1 then some (x, 0, 0, h.2.2) else none
def ah_rd {α ρ : Type} (g : ahH → Option α) (f : α → ahM ρ) : ahM ρ := fun h => match g h with
  | none => none
  | some a => f a h
def ah_wr {ρ : Type} (g : ahH → Option ahC) (f : ahM ρ) : ahM ρ := fun h => match g h with
  | none => none
  | some c => f (h.1, h.2.1, c)
def ah_bnd {α ρ : Type} (g : ahM α) (f : α → ahM ρ) : ahM ρ := fun h => match g h with
  | none => none
  | some (a, n1, u1, c1) => match f a (ah_nx h n1 u1 c1) with
    | none => none
    | some (b, n2, u2, c2) => some (b, n1 + n2, u1 + u2, c2)
def ah_lp {σ ρ : Type} (b : (σ → ahM ρ) → σ → ahM ρ) : Nat → σ → ahM ρ
  | 0, _ => ah_no
  | n + 1, s => b (ah_lp b n) s
def ah_gI (ci : Nat) (r : Option Nat) (k : Nat) (h : ahH) : Option Int32 := match r with
  | none => none
  | some a => if ah_kd h a = ci + 1 then some (ah_I h a k) else none
def ah_gR (ci : Nat) (r : Option Nat) (k : Nat) (h : ahH) : Option (Option Nat) := match r with
  | none => none
  | some a => if ah_kd h a = ci + 1 then some (ah_P h a k) else none
def ah_pI (ci : Nat) (r : Option Nat) (k : Nat) (x : Int32) (h : ahH) : Option ahC := match r with
  | none => none
  | some a => if ah_kd h a = ci + 1 then some (h.2.2.1, ah_u2 (ah_I h) a k x, ah_P h) else none
def ah_pR (ci : Nat) (r : Option Nat) (k : Nat) (x : Option Nat) (h : ahH) : Option ahC := match r with
  | none => none
  | some a => if ah_kd h a = ci + 1 then some (h.2.2.1, ah_I h, ah_u2 (ah_P h) a k x) else none
def ah_in (i : Int32) (n : Nat) : Bool := !(decide (i < 0) || decide (n ≤ i.toNatClampNeg))
def ah_aI (j : Nat) (r : Option Nat) (i : Int32) (h : ahH) : Option Int32 := match r with
  | none => none
  | some a => if (ah_kd h a = 100 + j ∨ (j = 0 ∧ ah_kd h a = 99)) ∧ ah_in i (ah_ln h a) = true then some (ah_I h a i.toNatClampNeg) else none
def ah_aR (j : Nat) (r : Option Nat) (i : Int32) (h : ahH) : Option (Option Nat) := match r with
  | none => none
  | some a => if ah_kd h a = 100 + j ∧ ah_in i (ah_ln h a) = true then some (ah_P h a i.toNatClampNeg) else none
def ah_sI (j : Nat) (r : Option Nat) (i x : Int32) (h : ahH) : Option ahC := match r with
  | none => none
  | some a => if ah_kd h a = 100 + j ∧ ah_in i (ah_ln h a) = true then some (h.2.2.1, ah_u2 (ah_I h) a i.toNatClampNeg x, ah_P h) else none
def ah_isK (h : ahH) (ci : Nat) (x : Option Nat) : Bool := match x with
  | none => true
  | some b => decide (ah_kd h b = ci + 1)
def ah_sR (j ci : Nat) (r : Option Nat) (i : Int32) (x : Option Nat) (h : ahH) : Option ahC := match r with
  | none => none
  | some a => if ah_kd h a = 100 + j ∧ ah_in i (ah_ln h a) = true ∧ ah_isK h ci x = true then some (h.2.2.1, ah_I h, ah_u2 (ah_P h) a i.toNatClampNeg x) else none
def ah_al (j : Nat) (r : Option Nat) (h : ahH) : Option Int32 := match r with
  | none => none
  | some a => if ah_kd h a = 100 + j ∨ (j = 0 ∧ ah_kd h a = 99) then some (Int32.ofNat (ah_ln h a)) else none
def ah_cc (ci : Nat) (r : Option Nat) (h : ahH) : Option (Option Nat) := match r with
  | none => some none
  | some a => if ah_kd h a = ci + 1 then some (some a) else none
def ah_new (ci n : Nat) : ahM (Option Nat) := fun h => some (some h.1, 1, n, (va_up h.2.2.1 h.1 (ci + 1, n), va_up (ah_I h) h.1 (fun _ => 0), va_up (ah_P h) h.1 (fun _ => none)))
def ah_na (j : Nat) (n : Int32) : ahM (Option Nat) := fun h => if ¬ n < 0 ∧ n.toNatClampNeg ≤ 16777216 then some (some h.1, 1, n.toNatClampNeg, (va_up h.2.2.1 h.1 (100 + j, n.toNatClampNeg), va_up (ah_I h) h.1 (fun _ => 0), va_up (ah_P h) h.1 (fun _ => none))) else none
def ah_cV {ρ : Type} (ci : Nat) (r : Option Nat) (g : Nat → ahM ρ) : ahM ρ := fun h => match r with
  | none => none
  | some a => if ah_kd h a = ci + 1 then g a h else none
def ah_cI {ρ : Type} (r : Option Nat) (g : Nat → ahM ρ) : ahM ρ := fun h => match r with
  | none => none
  | some a => g a h
def ah_fv (b : Bool) (x : Int32) (r : Option Nat) : Value := match b with
  | true => va_rf r
  | false => .int x
theorem ah_rf_cat (r : Option Nat) : (va_rf r).category = 1 := by cases r <;> rfl
theorem ah_in_iff {i : Int32} {n : Nat} : ah_in i n = true ↔ vp_in i n := by
  unfold ah_in vp_in
  simp
end AHD
def pg_T0 : u_T := fun k => match k with
  | 0 => ("BoundedTypes$Types", "classes", "[I", false)
  | 1 => ("BoundedTypes$Types", "parts", "[I", false)
  | 2 => ("BoundedTypes$Types", "held", "[I", false)
  | 3 => ("BoundedTypes$Types", "buckets", "[I", false)
  | 4 => ("BoundedTypes$Types", "next", "[I", false)
  | 5 => ("BoundedTypes$Types", "heads", "[I", true)
  | _ => ("BoundedTypes$Types", "count", "I", false)
def pg_T1 : u_T := fun k => match k with
  | 0 => ("BoundedTypes$Code", "kinds", "[I", true)
  | 1 => ("BoundedTypes$Code", "subjects", "[I", true)
  | 2 => ("BoundedTypes$Code", "amounts", "[I", true)
  | 3 => ("BoundedTypes$Code", "lists", "[I", true)
  | _ => ("BoundedTypes$Code", "count", "I", false)
def pg_T2 : u_T := fun k => match k with
  | 0 => ("BoundedTypes$Bounds", "variables", "[I", true)
  | 1 => ("BoundedTypes$Bounds", "types", "[I", true)
  | _ => ("BoundedTypes$Bounds", "count", "I", false)
def pg_T3 : u_T := fun k => match k with
  | 0 => ("java/util/ArrayList", "elementData", "[Ljava/lang/Object;", false)
  | 1 => ("java/util/ArrayList", "size", "I", false)
  | _ => ("java/util/AbstractList", "modCount", "I", false)
def pg_T4 : u_T := fun k => match k with
  | 0 => ("BoundedTypes$Entry", "name", "I", true)
  | 1 => ("BoundedTypes$Entry", "bounds", "LBoundedTypes$Bounds;", true)
  | 2 => ("BoundedTypes$Entry", "above", "I", true)
  | 3 => ("BoundedTypes$Entry", "aboveClass", "I", true)
  | 4 => ("BoundedTypes$Entry", "members", "Ljava/util/ArrayList;", true)
  | 5 => ("BoundedTypes$Entry", "methods", "[LBoundedTypes$Member;", true)
  | 6 => ("BoundedTypes$Entry", "fieldNames", "[I", true)
  | 7 => ("BoundedTypes$Entry", "fieldTypes", "[I", true)
  | 8 => ("BoundedTypes$Entry", "firstOwnField", "I", false)
  | _ => ("BoundedTypes$Entry", "fieldCount", "I", false)
def pg_T5 : u_T := fun k => match k with
  | 0 => ("BoundedTypes$Rules", "types", "LBoundedTypes$Types;", true)
  | 1 => ("BoundedTypes$Rules", "entries", "[LBoundedTypes$Entry;", true)
  | 2 => ("BoundedTypes$Rules", "scope", "[I", true)
  | _ => ("BoundedTypes$Rules", "standing", "[I", true)
def pg_T6 : u_T := fun k => match k with
  | 0 => ("BoundedTypes$Reader", "text", "[C", true)
  | 1 => ("BoundedTypes$Reader", "types", "LBoundedTypes$Types;", true)
  | 2 => ("BoundedTypes$Reader", "code", "LBoundedTypes$Code;", true)
  | 3 => ("BoundedTypes$Reader", "marks", "[C", true)
  | 4 => ("BoundedTypes$Reader", "places", "[I", true)
  | 5 => ("BoundedTypes$Reader", "now", "I", false)
  | 6 => ("BoundedTypes$Reader", "depth", "I", false)
  | 7 => ("BoundedTypes$Reader", "casts", "[I", true)
  | 8 => ("BoundedTypes$Reader", "castCount", "I", false)
  | _ => ("BoundedTypes$Reader", "inside", "LBoundedTypes$Member;", false)
def pg_T7 : u_T := fun k => match k with
  | 0 => ("BoundedTypes$Expressions", "types", "LBoundedTypes$Types;", true)
  | 1 => ("BoundedTypes$Expressions", "code", "LBoundedTypes$Code;", true)
  | 2 => ("BoundedTypes$Expressions", "rules", "LBoundedTypes$Rules;", true)
  | 3 => ("BoundedTypes$Expressions", "stack", "[I", true)
  | 4 => ("BoundedTypes$Expressions", "top", "I", false)
  | 5 => ("BoundedTypes$Expressions", "awaited", "[I", true)
  | 6 => ("BoundedTypes$Expressions", "self", "I", false)
  | _ => ("BoundedTypes$Expressions", "inside", "LBoundedTypes$Member;", false)
def pg_T8 : u_T := fun k => match k with
  | 0 => ("BoundedTypes$Declarations", "types", "LBoundedTypes$Types;", true)
  | 1 => ("BoundedTypes$Declarations", "rules", "LBoundedTypes$Rules;", true)
  | _ => ("BoundedTypes$Declarations", "expressions", "LBoundedTypes$Expressions;", true)
def pg_T9 : u_T := fun k => match k with
  | 0 => ("BoundedTypes$Machine", "types", "LBoundedTypes$Types;", true)
  | 1 => ("BoundedTypes$Machine", "code", "LBoundedTypes$Code;", true)
  | 2 => ("BoundedTypes$Machine", "rules", "LBoundedTypes$Rules;", true)
  | 3 => ("BoundedTypes$Machine", "cells", "[I", true)
  | 4 => ("BoundedTypes$Machine", "cellCount", "I", false)
  | 5 => ("BoundedTypes$Machine", "stack", "[I", true)
  | 6 => ("BoundedTypes$Machine", "top", "I", false)
  | 7 => ("BoundedTypes$Machine", "frames", "[I", true)
  | 8 => ("BoundedTypes$Machine", "calls", "I", false)
  | 9 => ("BoundedTypes$Machine", "base", "I", false)
  | 10 => ("BoundedTypes$Machine", "place", "I", false)
  | 11 => ("BoundedTypes$Machine", "end", "I", false)
  | 12 => ("BoundedTypes$Machine", "fuel", "I", false)
  | 13 => ("BoundedTypes$Machine", "text", "[C", true)
  | 14 => ("BoundedTypes$Machine", "textLength", "I", false)
  | 15 => ("BoundedTypes$Machine", "openValues", "[I", true)
  | _ => ("BoundedTypes$Machine", "openFields", "[I", true)
def pg_T10 : u_T := fun k => match k with
  | 0 => ("BoundedTypes", "typed", "[C", true)
  | 1 => ("BoundedTypes", "typedCount", "I", false)
  | 2 => ("BoundedTypes", "types", "LBoundedTypes$Types;", true)
  | 3 => ("BoundedTypes", "code", "LBoundedTypes$Code;", true)
  | 4 => ("BoundedTypes", "rules", "LBoundedTypes$Rules;", true)
  | 5 => ("BoundedTypes", "reader", "LBoundedTypes$Reader;", true)
  | 6 => ("BoundedTypes", "expressions", "LBoundedTypes$Expressions;", true)
  | 7 => ("BoundedTypes", "declarations", "LBoundedTypes$Declarations;", true)
  | _ => ("BoundedTypes", "machine", "LBoundedTypes$Machine;", true)
def pg_T11 : u_T := fun k => match k with
  | 0 => ("BoundedTypes$Member", "name", "I", true)
  | 1 => ("BoundedTypes$Member", "result", "I", true)
  | 2 => ("BoundedTypes$Member", "isMethod", "Z", false)
  | 3 => ("BoundedTypes$Member", "bounds", "LBoundedTypes$Bounds;", true)
  | 4 => ("BoundedTypes$Member", "parameterNames", "[I", true)
  | 5 => ("BoundedTypes$Member", "parameterTypes", "[I", true)
  | 6 => ("BoundedTypes$Member", "parameterCount", "I", false)
  | 7 => ("BoundedTypes$Member", "codeStart", "I", false)
  | _ => ("BoundedTypes$Member", "codeEnd", "I", false)
def pg_T12 : u_T := fun k => match k with
  | 0 => ("BoundedTypesModel", "chars", "[I", true)
  | 1 => ("BoundedTypesModel", "typed", "I", false)
  | 2 => ("BoundedTypesModel", "size", "I", false)
  | 3 => ("BoundedTypesModel", "at", "I", false)
  | 4 => ("BoundedTypesModel", "depth", "I", false)
  | 5 => ("BoundedTypesModel", "fault", "I", false)
  | 6 => ("BoundedTypesModel", "wrong", "I", false)
  | 7 => ("BoundedTypesModel", "nodes", "I", false)
  | 8 => ("BoundedTypesModel", "code", "[I", true)
  | 9 => ("BoundedTypesModel", "part", "[I", true)
  | 10 => ("BoundedTypesModel", "work", "[I", true)
  | 11 => ("BoundedTypesModel", "reached", "[I", true)
  | 12 => ("BoundedTypesModel", "held", "[I", true)
  | 13 => ("BoundedTypesModel", "map", "[I", true)
  | 14 => ("BoundedTypesModel", "bound", "[I", true)
  | 15 => ("BoundedTypesModel", "there", "[I", true)
  | 16 => ("BoundedTypesModel", "vars", "[I", true)
  | 17 => ("BoundedTypesModel", "letter", "[I", true)
  | 18 => ("BoundedTypesModel", "limit", "[I", true)
  | 19 => ("BoundedTypesModel", "below", "[I", true)
  | 20 => ("BoundedTypesModel", "behind", "I", false)
  | 21 => ("BoundedTypesModel", "newLetter", "[I", true)
  | 22 => ("BoundedTypesModel", "newLimit", "[I", true)
  | 23 => ("BoundedTypesModel", "fieldCount", "I", false)
  | 24 => ("BoundedTypesModel", "fieldClass", "[I", true)
  | 25 => ("BoundedTypesModel", "fieldName", "[I", true)
  | 26 => ("BoundedTypesModel", "fieldType", "[I", true)
  | 27 => ("BoundedTypesModel", "methodCount", "I", false)
  | 28 => ("BoundedTypesModel", "owner", "[I", true)
  | 29 => ("BoundedTypesModel", "methodName", "[I", true)
  | 30 => ("BoundedTypesModel", "methodVars", "[I", true)
  | 31 => ("BoundedTypesModel", "methodLetter", "[I", true)
  | 32 => ("BoundedTypesModel", "methodLimit", "[I", true)
  | 33 => ("BoundedTypesModel", "parameters", "[I", true)
  | 34 => ("BoundedTypesModel", "parameterName", "[I", true)
  | 35 => ("BoundedTypesModel", "parameterType", "[I", true)
  | 36 => ("BoundedTypesModel", "result", "[I", true)
  | 37 => ("BoundedTypesModel", "from", "[I", true)
  | 38 => ("BoundedTypesModel", "to", "[I", true)
  | 39 => ("BoundedTypesModel", "steps", "I", false)
  | 40 => ("BoundedTypesModel", "step", "[J", true)
  | 41 => ("BoundedTypesModel", "members", "I", false)
  | 42 => ("BoundedTypesModel", "member", "[I", true)
  | 43 => ("BoundedTypesModel", "kind", "[I", true)
  | 44 => ("BoundedTypesModel", "about", "[I", true)
  | 45 => ("BoundedTypesModel", "many", "[I", true)
  | 46 => ("BoundedTypesModel", "types", "[I", true)
  | 47 => ("BoundedTypesModel", "given", "[I", true)
  | 48 => ("BoundedTypesModel", "values", "[I", true)
  | 49 => ("BoundedTypesModel", "heapSize", "I", false)
  | 50 => ("BoundedTypesModel", "heap", "[I", true)
  | 51 => ("BoundedTypesModel", "callMethod", "[I", true)
  | 52 => ("BoundedTypesModel", "callStep", "[I", true)
  | 53 => ("BoundedTypesModel", "callThis", "[I", true)
  | 54 => ("BoundedTypesModel", "callGiven", "[I", true)
  | 55 => ("BoundedTypesModel", "text", "[I", true)
  | 56 => ("BoundedTypesModel", "textSize", "I", false)
  | 57 => ("BoundedTypesModel", "fuelLeft", "I", false)
  | _ => ("BoundedTypesModel", "foundIn", "I", false)
def pg_cls : List vw_C := [("BoundedTypes$Types", pg_T0, 7), ("BoundedTypes$Code", pg_T1, 5), ("BoundedTypes$Bounds", pg_T2, 3), ("java/util/ArrayList", pg_T3, 3), ("BoundedTypes$Entry", pg_T4, 10), ("BoundedTypes$Rules", pg_T5, 4), ("BoundedTypes$Reader", pg_T6, 10), ("BoundedTypes$Expressions", pg_T7, 8), ("BoundedTypes$Declarations", pg_T8, 3), ("BoundedTypes$Machine", pg_T9, 17), ("BoundedTypes", pg_T10, 9), ("BoundedTypes$Member", pg_T11, 9), ("BoundedTypesModel", pg_T12, 59)]
def pg_fR : List (List Bool) := [[true, true, true, true, true, true, false], [true, true, true, true, false], [true, true, false], [true, false, false], [false, true, false, false, true, true, true, true, false, false], [true, true, true, true], [true, true, true, true, true, false, false, true, false, true], [true, true, true, true, false, true, false, true], [true, true, true], [true, true, true, true, false, true, false, true, false, false, false, false, false, true, false, true, true], [true, false, true, true, true, true, true, true, true], [false, false, false, true, true, true, false, false, false], [true, false, false, false, false, false, false, false, true, true, true, true, true, true, true, true, true, true, true, true, false, true, true, false, true, true, true, false, true, true, true, true, true, true, true, true, true, true, true, false, true, false, true, true, true, true, true, true, true, false, true, true, true, true, true, true, false, false, false]]
def pg_ty : List (List FieldType) := [[.array .int, .array .int, .array .int, .array .int, .array .int, .array .int, .int], [.array .int, .array .int, .array .int, .array .int, .int], [.array .int, .array .int, .int], [.array (.object "java/lang/Object"), .int, .int], [.int, .object "BoundedTypes$Bounds", .int, .int, .object "java/util/ArrayList", .array (.object "BoundedTypes$Member"), .array .int, .array .int, .int, .int], [.object "BoundedTypes$Types", .array (.object "BoundedTypes$Entry"), .array .int, .array .int], [.array .char, .object "BoundedTypes$Types", .object "BoundedTypes$Code", .array .char, .array .int, .int, .int, .array .int, .int, .object "BoundedTypes$Member"], [.object "BoundedTypes$Types", .object "BoundedTypes$Code", .object "BoundedTypes$Rules", .array .int, .int, .array .int, .int, .object "BoundedTypes$Member"], [.object "BoundedTypes$Types", .object "BoundedTypes$Rules", .object "BoundedTypes$Expressions"], [.object "BoundedTypes$Types", .object "BoundedTypes$Code", .object "BoundedTypes$Rules", .array .int, .int, .array .int, .int, .array .int, .int, .int, .int, .int, .int, .array .char, .int, .array .int, .array .int], [.array .char, .int, .object "BoundedTypes$Types", .object "BoundedTypes$Code", .object "BoundedTypes$Rules", .object "BoundedTypes$Reader", .object "BoundedTypes$Expressions", .object "BoundedTypes$Declarations", .object "BoundedTypes$Machine"], [.int, .int, .boolean, .object "BoundedTypes$Bounds", .array .int, .array .int, .int, .int, .int], [.array .int, .int, .int, .int, .int, .int, .int, .int, .array .int, .array .int, .array .int, .array .int, .array .int, .array .int, .array .int, .array .int, .array .int, .array .int, .array .int, .array .int, .int, .array .int, .array .int, .int, .array .int, .array .int, .array .int, .int, .array .int, .array .int, .array .int, .array .int, .array .int, .array .int, .array .int, .array .int, .array .int, .array .int, .array .int, .int, .array .long, .int, .array .int, .array .int, .array .int, .array .int, .array .int, .array .int, .array .int, .int, .array .int, .array .int, .array .int, .array .int, .array .int, .array .int, .int, .int, .int]]
def pg_aty : List FieldType := [.int, .char, .object "BoundedTypes$Member", .object "BoundedTypes$Entry", .long]
def pg_aR : List Bool := [false, false, true, true, false]
theorem pg_aty_len : pg_aty.length ≤ 100 := by decide
def ah_nsh : Cond → Bool
  | .fieldLinkNest .. => true
  | .methodLinkNest .. => true
  | .castable .. => true
  | .arrayOver (.object _) => true
  | _ => false
def pg_T : List Cond := lw_tbl.filter goodWord
def pg_N : List Cond := lw_tbl.filter ah_nsh
theorem pg_T_ok : ∀ w ∈ pg_T, (w.onTables && w.keeps) = true ∨ ∃ ty, w = .arrayClass ty := fun w hw => good_of_word (List.mem_filter.mp hw).2
theorem pg_N_ok : ∀ w ∈ pg_N, ah_nsh w = true := fun w hw => (List.mem_filter.mp hw).2
theorem pg_inT {w : Cond} (h : w ∈ tables_1) (hg : goodWord w = true) : w ∈ pg_T := List.mem_filter.mpr ⟨List.mem_append_right _ h, hg⟩
theorem pg_inN {w : Cond} (h : w ∈ tables_1) (hg : ah_nsh w = true) : w ∈ pg_N := List.mem_filter.mpr ⟨List.mem_append_right _ h, hg⟩
theorem pg_inS {q : MethodName × Nat} (h : q ∈ lw_privs) : Cond.selects q.1.cls q.1 q.1 ∈ pg_T := List.mem_filter.mpr ⟨List.mem_append_left _ (List.mem_map.mpr ⟨q, h, rfl⟩), rfl⟩
theorem pg_t0 {w : Cond} (h : w ∈ tables_1_1) (hg : goodWord w = true) : w ∈ pg_T := pg_inT (List.mem_append_left _ h) hg
theorem pg_n0 {w : Cond} (h : w ∈ tables_1_1) (hg : ah_nsh w = true) : w ∈ pg_N := pg_inN (List.mem_append_left _ h) hg
theorem pg_t1 {w : Cond} (h : w ∈ tables_1_2) (hg : goodWord w = true) : w ∈ pg_T := pg_inT (List.mem_append_right _ (List.mem_append_left _ h)) hg
theorem pg_n1 {w : Cond} (h : w ∈ tables_1_2) (hg : ah_nsh w = true) : w ∈ pg_N := pg_inN (List.mem_append_right _ (List.mem_append_left _ h)) hg
theorem pg_t2 {w : Cond} (h : w ∈ tables_1_3) (hg : goodWord w = true) : w ∈ pg_T := pg_inT (List.mem_append_right _ (List.mem_append_right _ (List.mem_append_left _ h))) hg
theorem pg_n2 {w : Cond} (h : w ∈ tables_1_3) (hg : ah_nsh w = true) : w ∈ pg_N := pg_inN (List.mem_append_right _ (List.mem_append_right _ (List.mem_append_left _ h))) hg
theorem pg_t3 {w : Cond} (h : w ∈ tables_1_4) (hg : goodWord w = true) : w ∈ pg_T := pg_inT (List.mem_append_right _ (List.mem_append_right _ (List.mem_append_right _ (List.mem_append_left _ h)))) hg
theorem pg_n3 {w : Cond} (h : w ∈ tables_1_4) (hg : ah_nsh w = true) : w ∈ pg_N := pg_inN (List.mem_append_right _ (List.mem_append_right _ (List.mem_append_right _ (List.mem_append_left _ h)))) hg
theorem pg_t4 {w : Cond} (h : w ∈ tables_1_5) (hg : goodWord w = true) : w ∈ pg_T := pg_inT (List.mem_append_right _ (List.mem_append_right _ (List.mem_append_right _ (List.mem_append_right _ (List.mem_append_left _ h))))) hg
theorem pg_n4 {w : Cond} (h : w ∈ tables_1_5) (hg : ah_nsh w = true) : w ∈ pg_N := pg_inN (List.mem_append_right _ (List.mem_append_right _ (List.mem_append_right _ (List.mem_append_right _ (List.mem_append_left _ h))))) hg
theorem pg_t5 {w : Cond} (h : w ∈ tables_1_6) (hg : goodWord w = true) : w ∈ pg_T := pg_inT (List.mem_append_right _ (List.mem_append_right _ (List.mem_append_right _ (List.mem_append_right _ (List.mem_append_right _ (List.mem_append_left _ h)))))) hg
theorem pg_n5 {w : Cond} (h : w ∈ tables_1_6) (hg : ah_nsh w = true) : w ∈ pg_N := pg_inN (List.mem_append_right _ (List.mem_append_right _ (List.mem_append_right _ (List.mem_append_right _ (List.mem_append_right _ (List.mem_append_left _ h)))))) hg
theorem pg_t6 {w : Cond} (h : w ∈ tables_1_7) (hg : goodWord w = true) : w ∈ pg_T := pg_inT (List.mem_append_right _ (List.mem_append_right _ (List.mem_append_right _ (List.mem_append_right _ (List.mem_append_right _ (List.mem_append_right _ h)))))) hg
theorem pg_n6 {w : Cond} (h : w ∈ tables_1_7) (hg : ah_nsh w = true) : w ∈ pg_N := pg_inN (List.mem_append_right _ (List.mem_append_right _ (List.mem_append_right _ (List.mem_append_right _ (List.mem_append_right _ (List.mem_append_right _ h)))))) hg
theorem pg_s0 {q : MethodName × Nat} (h : q ∈ lw_privs_1) : Cond.selects q.1.cls q.1 q.1 ∈ pg_T := pg_inS (List.mem_append_left _ h)
theorem pg_s1 {q : MethodName × Nat} (h : q ∈ lw_privs_2) : Cond.selects q.1.cls q.1 q.1 ∈ pg_T := pg_inS (List.mem_append_right _ (List.mem_append_left _ h))
theorem pg_s2 {q : MethodName × Nat} (h : q ∈ lw_privs_3) : Cond.selects q.1.cls q.1 q.1 ∈ pg_T := pg_inS (List.mem_append_right _ (List.mem_append_right _ (List.mem_append_left _ h)))
theorem pg_s3 {q : MethodName × Nat} (h : q ∈ lw_privs_4) : Cond.selects q.1.cls q.1 q.1 ∈ pg_T := pg_inS (List.mem_append_right _ (List.mem_append_right _ (List.mem_append_right _ (List.mem_append_left _ h))))
theorem pg_s4 {q : MethodName × Nat} (h : q ∈ lw_privs_5) : Cond.selects q.1.cls q.1 q.1 ∈ pg_T := pg_inS (List.mem_append_right _ (List.mem_append_right _ (List.mem_append_right _ (List.mem_append_right _ (List.mem_append_left _ h)))))
theorem pg_s5 {q : MethodName × Nat} (h : q ∈ lw_privs_6) : Cond.selects q.1.cls q.1 q.1 ∈ pg_T := pg_inS (List.mem_append_right _ (List.mem_append_right _ (List.mem_append_right _ (List.mem_append_right _ (List.mem_append_right _ (List.mem_append_left _ h))))))
theorem pg_s6 {q : MethodName × Nat} (h : q ∈ lw_privs_7) : Cond.selects q.1.cls q.1 q.1 ∈ pg_T := pg_inS (List.mem_append_right _ (List.mem_append_right _ (List.mem_append_right _ (List.mem_append_right _ (List.mem_append_right _ (List.mem_append_right _ (List.mem_append_left _ h)))))))
theorem pg_s7 {q : MethodName × Nat} (h : q ∈ lw_privs_8) : Cond.selects q.1.cls q.1 q.1 ∈ pg_T := pg_inS (List.mem_append_right _ (List.mem_append_right _ (List.mem_append_right _ (List.mem_append_right _ (List.mem_append_right _ (List.mem_append_right _ (List.mem_append_right _ h)))))))
