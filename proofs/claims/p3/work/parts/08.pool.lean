abbrev rS : Type := Nat × Int × Int
def FS (ci : Nat) : List rS := match ci with
  | 0 => [(2, 8, 8), (2, 5, 5), (3, 7, 7), (2, 110, 110), (2, 111, 111), (2, 112, 112), (2, 113, 113), (2, 114, 114), (0, 0, 300), (2, 115, 115), (0, 0, 300), (0, (-2147483648), 2147483647), (0, 0, 1), (0, 0, 1)]
  | 1 => [(3, 7, 7), (3, 9, 9), (2, 100, 102), (2, 100, 102), (2, 100, 103), (0, 0, 1), (0, (-2147483648), 2147483647), (2, 100, 100), (0, 0, 700), (2, 116, 116), (2, 117, 117), (0, 0, 20), (0, 0, 1), (0, (-2147483648), 2147483647), (0, (-2147483648), 2147483647), (0, (-2147483648), 2147483647), (0, (-2147483648), 2147483647), (1, 0, 0)]
  | 2 => [(2, 8, 8), (2, 5, 5), (2, 0, 0), (3, 7, 7), (3, 9, 9), (3, 6, 6), (0, 0, 1), (2, 118, 118), (2, 119, 119), (2, 120, 120), (2, 121, 121), (0, 0, 8), (0, (-2147483648), 2147483647), (0, 0, 95), (0, (-2147483648), 2147483647), (0, (-1), 26)]
  | 3 => [(0, 0, 10), (2, 122, 122), (2, 123, 123), (2, 124, 124), (0, 0, 3), (2, 125, 125)]
  | 4 => [(0, (-2147483648), 2147483647), (0, (-2147483648), 2147483647), (0, (-2147483648), 2147483647), (0, (-2147483648), 2147483647), (0, (-2147483648), 2147483647), (1, 0, 0), (0, 0, 3), (2, 126, 126), (2, 127, 127), (2, 128, 128), (2, 129, 129), (2, 102, 102), (2, 130, 130), (2, 131, 131), (0, (-2147483648), 2147483647), (0, (-2147483648), 2147483647), (0, (-2147483648), 2147483647)]
  | 5 => [(3, 7, 7), (3, 9, 9), (0, (-2147483648), 2147483647), (2, 132, 132), (0, 0, 3), (2, 133, 133), (0, 0, 8), (0, 0, 1), (0, 0, 1)]
  | 6 => [(1, 0, 0), (0, (-2147483648), 2147483647), (0, (-2147483648), 2147483647), (0, 0, 3), (2, 134, 134), (2, 135, 135), (0, 0, 1), (0, (-1), 95), (0, (-2147483648), 2147483647), (0, 0, 420), (0, (-2147483648), 2147483647), (0, 0, 500), (0, 0, 9)]
  | 7 => [(2, 136, 136), (0, 0, 8), (2, 137, 137), (0, 0, 96), (2, 138, 138), (2, 139, 139), (0, 0, 2000), (2, 140, 140), (2, 141, 141), (2, 142, 142), (2, 143, 143), (2, 144, 144), (2, 145, 145), (0, 0, 500), (2, 146, 146), (0, 0, 420), (2, 147, 147), (0, 0, 420), (0, (-2147483648), 2147483647)]
  | 8 => [(2, 148, 148), (2, 149, 149), (2, 150, 150), (2, 151, 151), (2, 104, 105), (0, 0, 4000), (0, 0, 1201), (0, 0, 1), (0, 0, 7), (0, (-2147483648), 2147483647)]
  | 9 => [(1, 0, 0), (0, (-2147483648), 2147483647), (0, 0, 10), (2, 152, 152), (2, 153, 153), (2, 154, 154), (2, 155, 155), (0, 0, 24), (0, 0, 12), (2, 156, 156), (0, 0, 500), (0, (-2147483648), 2147483647), (0, (-2147483648), 2147483647)]
  | 10 => [(2, 7, 7), (2, 1, 1), (2, 3, 3), (2, 3, 3), (2, 4, 4), (2, 4, 4), (0, (-2147483648), 2147483647), (0, (-2147483648), 2147483647), (0, 0, 1), (0, (-2147483648), 2147483647)]
  | 11 => [(2, 104, 104), (0, 0, 4000), (2, 2, 2), (2, 10, 10), (2, 7, 7), (2, 7, 7), (0, (-2147483648), 2147483647), (0, (-2147483648), 2147483647)]
  | 12 => [(0, 0, 8), (2, 157, 157), (2, 158, 158), (2, 159, 159), (2, 160, 160), (2, 161, 161), (2, 162, 162), (2, 163, 163), (2, 164, 164), (2, 165, 165), (2, 166, 166), (2, 167, 167), (2, 168, 168), (2, 169, 169), (2, 170, 170), (2, 171, 171), (2, 172, 172), (2, 173, 173), (2, 174, 174), (2, 175, 175), (2, 176, 176), (2, 177, 177), (2, 178, 178), (2, 179, 179), (2, 180, 180), (2, 181, 181), (2, 182, 182), (0, 0, 110), (2, 183, 183), (2, 184, 184), (2, 185, 185), (2, 186, 186), (2, 187, 187), (2, 188, 188), (2, 189, 189), (2, 190, 190), (2, 191, 191), (2, 192, 192), (2, 193, 193), (2, 194, 194), (2, 195, 195), (2, 196, 196), (2, 197, 197), (2, 198, 198), (2, 199, 199), (2, 200, 200), (0, 0, 700), (2, 201, 201), (2, 202, 202), (2, 203, 203), (2, 204, 204), (2, 205, 205), (2, 206, 206), (2, 207, 207), (2, 208, 208), (2, 209, 209), (2, 210, 210), (0, 0, 2500), (0, (-2147483648), 2147483647), (2, 211, 211)]
  | 13 => [(9, 0, 0), (9, 0, 0), (9, 0, 0), (9, 0, 0), (9, 0, 0), (0, (-2147483648), 2147483647)]
  | 14 => [(2, 13, 13), (2, 12, 12), (2, 12, 12), (2, 212, 212), (0, 0, 4000), (0, 0, 4000), (0, 0, 5), (0, (-2147483648), 2147483647), (0, 0, 8000), (0, 0, 8000), (0, 0, 1202), (1, 0, 0), (1, 0, 0), (1, 0, 0), (0, (-2147483648), 2147483647), (0, (-2147483648), 2147483647), (0, 0, 7), (0, 0, 109), (2, 213, 213), (2, 214, 214), (0, 0, 3), (0, 0, 8), (0, 0, 1), (0, 0, 1), (0, 0, 1), (0, 0, 40), (0, 0, 8), (2, 215, 215), (2, 216, 216), (2, 217, 217), (0, 0, 3), (0, (-2147483648), 2147483647), (1, 0, 0), (1, 0, 0), (0, (-2147483648), 2147483647), (0, 0, 20), (0, 0, 1), (0, 0, 1), (0, (-2147483648), 2147483647), (1, 0, 0), (1, 0, 0), (2, 218, 218), (2, 219, 219), (2, 220, 220), (2, 221, 221), (0, 0, 1), (2, 222, 222), (2, 223, 223), (2, 224, 224), (2, 225, 225), (2, 226, 226), (0, 0, 10), (0, 0, 3), (0, 0, 1), (2, 227, 227), (0, (-2147483648), 2147483647), (2, 228, 228), (2, 229, 229), (0, (-2147483648), 2147483647), (0, (-2147483648), 2147483647), (0, (-2147483648), 2147483647), (0, (-2147483648), 2147483647), (2, 230, 230), (2, 231, 231), (2, 232, 232), (0, 0, 10), (0, 0, 3)]
  | _ => []
def AT (k : Nat) : Nat × Nat × Int × Int := match k with
  | 100 => (0, 700, (-2147483648), 2147483647)
  | 101 => (0, 24, (-2147483648), 2147483647)
  | 102 => (0, 24, (-2147483648), 2147483647)
  | 103 => (0, 3, (-2147483648), 2147483647)
  | 104 => (1, 4000, (-128), 127)
  | 105 => (1, 0, (-128), 127)
  | 110 => (0, 300, (-2147483648), 2147483647)
  | 111 => (0, 300, (-2147483648), 2147483647)
  | 112 => (0, 300, (-2147483648), 2147483647)
  | 113 => (0, 300, (-2147483648), 2147483647)
  | 114 => (0, 300, (-2147483648), 2147483647)
  | 115 => (0, 300, (-2147483648), 2147483647)
  | 116 => (0, 231, (-2147483648), 2147483647)
  | 117 => (0, 21, (-2147483648), 2147483647)
  | 118 => (0, 8, (-2147483648), 2147483647)
  | 119 => (0, 8, (-2147483648), 2147483647)
  | 120 => (0, 8, (-2147483648), 2147483647)
  | 121 => (0, 8, 0, 8)
  | 122 => (0, 10, 0, 2)
  | 123 => (0, 10, (-1), 11)
  | 124 => (6, 10, 103, 103)
  | 125 => (0, 3, 0, 7)
  | 126 => (0, 3, 0, 7)
  | 127 => (0, 3, (-2147483648), 2147483647)
  | 128 => (6, 3, 101, 101)
  | 129 => (6, 3, 101, 101)
  | 130 => (0, 10, (-2147483648), 2147483647)
  | 131 => (0, 10, (-2147483648), 2147483647)
  | 132 => (3, 3, 0, 0)
  | 133 => (3, 8, 0, 0)
  | 134 => (0, 3, (-2147483648), 2147483647)
  | 135 => (0, 3, (-2147483648), 2147483647)
  | 136 => (4, 8, 9, 9)
  | 137 => (5, 96, 6, 6)
  | 138 => (0, 2000, (-2147483648), 2147483647)
  | 139 => (0, 2000, (-2147483648), 2147483647)
  | 140 => (0, 500, (-2147483648), 2147483647)
  | 141 => (0, 500, (-2147483648), 2147483647)
  | 142 => (0, 500, (-2147483648), 2147483647)
  | 143 => (0, 500, (-2147483648), 2147483647)
  | 144 => (0, 500, (-2147483648), 2147483647)
  | 145 => (3, 500, 0, 0)
  | 146 => (2, 420, 0, 1)
  | 147 => (3, 420, 0, 0)
  | 148 => (7, 1202, (-2147483648), 2147483647)
  | 149 => (0, 1202, (-2147483648), 2147483647)
  | 150 => (3, 1202, 0, 0)
  | 151 => (3, 21, 0, 0)
  | 152 => (3, 10, 0, 0)
  | 153 => (0, 10, 0, 24)
  | 154 => (0, 10, 0, 8)
  | 155 => (0, 10, (-2147483648), 2147483647)
  | 156 => (0, 12, 0, 95)
  | 157 => (3, 9, 0, 0)
  | 158 => (3, 9, 0, 0)
  | 159 => (0, 9, (-1), 7)
  | 160 => (0, 9, 0, 10)
  | 161 => (0, 9, 0, 24)
  | 162 => (3, 100, 0, 0)
  | 163 => (3, 100, 0, 0)
  | 164 => (0, 100, 0, 8)
  | 165 => (0, 100, 0, 24)
  | 166 => (0, 100, (-2147483648), 2147483647)
  | 167 => (0, 72, (-2147483648), 2147483647)
  | 168 => (0, 72, (-2147483648), 2147483647)
  | 169 => (0, 9, 0, 8)
  | 170 => (0, 120, 0, 109)
  | 171 => (0, 9, 0, 12)
  | 172 => (3, 110, 0, 0)
  | 173 => (3, 110, 0, 0)
  | 174 => (0, 110, 0, 8)
  | 175 => (0, 110, 0, 3)
  | 176 => (0, 330, (-2147483648), 2147483647)
  | 177 => (0, 330, (-2147483648), 2147483647)
  | 178 => (0, 110, 0, 8)
  | 179 => (0, 110, (-2147483648), 2147483647)
  | 180 => (0, 110, 0, 40)
  | 181 => (0, 110, (-2147483648), 2147483647)
  | 182 => (2, 110, 0, 1)
  | 183 => (0, 880, (-2147483648), 2147483647)
  | 184 => (0, 880, (-2147483648), 2147483647)
  | 185 => (0, 880, (-2147483648), 2147483647)
  | 186 => (0, 880, (-2147483648), 2147483647)
  | 187 => (3, 880, 0, 0)
  | 188 => (3, 880, 0, 0)
  | 189 => (0, 700, (-2147483648), 2147483647)
  | 190 => (0, 700, (-2147483648), 2147483647)
  | 191 => (0, 700, (-2147483648), 2147483647)
  | 192 => (0, 700, (-2147483648), 2147483647)
  | 193 => (0, 700, (-2147483648), 2147483647)
  | 194 => (0, 700, (-2147483648), 2147483647)
  | 195 => (0, 700, (-2147483648), 2147483647)
  | 196 => (0, 700, (-2147483648), 2147483647)
  | 197 => (0, 700, 0, 109)
  | 198 => (3, 700, 0, 0)
  | 199 => (3, 700, 0, 0)
  | 200 => (2, 700, 0, 1)
  | 201 => (0, 2500, (-2147483648), 2147483647)
  | 202 => (0, 2500, (-2147483648), 2147483647)
  | 203 => (0, 2500, (-2147483648), 2147483647)
  | 204 => (0, 2500, (-2147483648), 2147483647)
  | 205 => (0, 2500, (-2147483648), 2147483647)
  | 206 => (0, 2500, 0, 3)
  | 207 => (0, 7500, (-2147483648), 2147483647)
  | 208 => (0, 2500, 0, 7)
  | 209 => (3, 2500, 0, 0)
  | 210 => (3, 2500, 0, 0)
  | 211 => (0, 9, (-1), 7)
  | 212 => (1, 4000, (-128), 127)
  | 213 => (3, 12, 0, 0)
  | 214 => (3, 12, 0, 0)
  | 215 => (0, 6, (-1), 7)
  | 216 => (0, 144, (-2147483648), 2147483647)
  | 217 => (0, 24, (-2147483648), 2147483647)
  | 218 => (0, 66, (-2147483648), 2147483647)
  | 219 => (0, 176, (-2147483648), 2147483647)
  | 220 => (0, 22, 0, 5)
  | 221 => (0, 22, (-2147483648), 2147483647)
  | 222 => (0, 10, 0, 2)
  | 223 => (0, 10, (-1), 11)
  | 224 => (0, 30, (-2147483648), 2147483647)
  | 225 => (0, 10, (-2147483648), 2147483647)
  | 226 => (0, 10, (-2147483648), 2147483647)
  | 227 => (0, 3, 0, 7)
  | 228 => (0, 4, (-2147483648), 2147483647)
  | 229 => (0, 2, (-2147483648), 2147483647)
  | 230 => (0, 10, 0, 2)
  | 231 => (0, 10, (-1), 11)
  | 232 => (0, 30, (-2147483648), 2147483647)
  | 240 => (0, 3, (-2147483648), 2147483647)
  | _ => (9, 0, 0, 0)
def bd (lo hi : Int) (x : Int32) : Prop := lo ≤ x.toInt ∧ x.toInt ≤ hi
def okV (L : List Nat) (kd : Nat → Nat) (t : rS) (v : Value) : Prop :=
  match t.1 with
  | 0 => ∃ x : Int32, v = .int x ∧ bd t.2.1 t.2.2 x
  | 1 => ∃ x : Int64, v = .long x
  | 2 => ∃ a : Nat, v = .ref a ∧ a ∈ L ∧ t.2.1 ≤ kd a ∧ kd a ≤ t.2.2
  | _ => v = .null ∨ ∃ a : Nat, v = .ref a ∧ a ∈ L ∧ t.2.1 ≤ kd a ∧ kd a ≤ t.2.2
def okO (L : List Nat) (kd : Nat → Nat) (ci : Nat) (e : va_E) : Prop := ∃ fs : List Value, e = .inr (ci, fs) ∧ fs.length = (FS ci).length ∧ ∀ (j : Nat) (t : rS), (FS ci)[j]? = some t → okV L kd t (fs.getD j .null)
def okI (tys : List (ClassId × FieldType)) (ty : FieldType) (n : Nat) (lo hi : Int) (e : va_E) : Prop := ∃ (cA : ClassId) (t0 : Nat) (f : Nat → Int32), e = .inl (cA, n, .inl f) ∧ tys[t0]? = some (cA, ty) ∧ ∀ i, i < n → bd lo hi (f i)
def okJ (tys : List (ClassId × FieldType)) (n : Nat) (e : va_E) : Prop := ∃ (cA : ClassId) (t0 : Nat) (f : Nat → Int64), e = .inl (cA, n, .inr (.inl f)) ∧ tys[t0]? = some (cA, .long)
def okR (L : List Nat) (kd : Nat → Nat) (tys : List (ClassId × FieldType)) (ty : FieldType) (n : Nat) (lo hi : Int) (e : va_E) : Prop := ∃ (cA : ClassId) (t0 : Nat) (f : Nat → Option Nat), e = .inl (cA, n, .inr (.inr (.inr (.inr f)))) ∧ tys[t0]? = some (cA, ty) ∧ ∀ i, i < n → ∃ a, f i = some a ∧ a ∈ L ∧ lo ≤ kd a ∧ kd a ≤ hi
/-- the element behind the last token's is 0 -/
def lz (e : va_E) : Prop := ∀ (cA : ClassId) (n : Nat) (f : Nat → Int32), e = .inl (cA, n, .inl f) → f 1201 = 0
def okE (L : List Nat) (kd : Nat → Nat) (tys : List (ClassId × FieldType)) (k : Nat) (e : va_E) : Prop :=
  if k < 100 then okO L kd k e else
  match (AT k).1 with
  | 0 => okI tys .int (AT k).2.1 (AT k).2.2.1 (AT k).2.2.2 e
  | 1 => okI tys .byte (AT k).2.1 (AT k).2.2.1 (AT k).2.2.2 e
  | 2 => okI tys .boolean (AT k).2.1 (AT k).2.2.1 (AT k).2.2.2 e
  | 3 => okJ tys (AT k).2.1 e
  | 4 => okR L kd tys (.object RX9) (AT k).2.1 (AT k).2.2.1 (AT k).2.2.2 e
  | 5 => okR L kd tys (.object RX6) (AT k).2.1 (AT k).2.2.1 (AT k).2.2.2 e
  | 7 => okI tys .int (AT k).2.1 (AT k).2.2.1 (AT k).2.2.2 e ∧ lz e
  | _ => okR L kd tys (.array .int) (AT k).2.1 (AT k).2.2.1 (AT k).2.2.2 e
def WT (L : List Nat) (kd : Nat → Nat) (tys : List (ClassId × FieldType)) (f : Nat → va_E) : Prop := ∀ a ∈ L, okE L kd tys (kd a) (f a)
def fV (f : Nat → va_E) (a j : Nat) : Value := match f a with
  | .inr o => o.2.getD j .null
  | .inl _ => .null
def aI (f : Nat → va_E) (a i : Nat) : Int32 := match f a with
  | .inl (_, _, .inl h) => h i
  | _ => 0
abbrev Fct : Type := Nat × Nat × Nat × Value
def Fs (L : List Nat) (kd : Nat → Nat) (f : Nat → va_E) (fx : List Fct) : Prop := ∀ q ∈ fx, q.2.2.1 ∈ L ∧ kd q.2.2.1 = q.1 ∧ q.1 < 100 ∧ fV f q.2.2.1 q.2.1 = q.2.2.2
def Md (L : List Nat) (kd : Nat → Nat) (md : List (Nat × Nat)) (ma : List Nat) (f0 f : Nat → va_E) : Prop := ∀ a ∈ L, (∀ j : Nat, kd a < 100 → (kd a, j) ∉ md → fV f a j = fV f0 a j) ∧ (100 ≤ kd a → kd a ∉ ma → f a = f0 a) ∧ ((8, 108) ∉ md → kd a = 8 → fV f0 a 8 ≠ .int 0 → fV f a 8 ≠ .int 0)
def pA (L : List Nat) (sz : Nat) : Nat → Prop := fun q => q ∈ L ∨ sz ≤ q
def G3 (D : va_G) (L : List Nat) (kd : Nat → Nat) (tys : List (ClassId × FieldType)) (s : State) (f0 : Nat → va_E) (md : List (Nat × Nat)) (ma : List Nat) (f : Nat → va_E) (H : Heap) (locs : List Loc) (fx : List Fct) : Prop :=
  va_P D vwCl (va_pl L f) H ∧ va_D (pA L s.heap.size) (va_pl L f) ∧ va_S (pA L s.heap.size) s.heap H locs ∧ WT L kd tys f ∧ Fs L kd f fx ∧ Md L kd md ma f0 f
def P3 (D : va_G) (L : List Nat) (tys : List (ClassId × FieldType)) (f : Nat → va_E) (sz : Nat) (U : State) : Prop := U.heap.size = sz ∧ va_P D vwCl (va_pl L f) U.heap ∧ va_K D vwCl tys U ∧ va_D (fun _ => True) (va_pl L f)
def Q3 (D : va_G) (L : List Nat) (kd : Nat → Nat) (tys : List (ClassId × FieldType)) (md : List (Nat × Nat)) (ma : List Nat) (f0 : Nat → va_E) (sz : Nat) (f : Nat → va_E) (t : State) : Prop :=
  WT L kd tys f ∧ Md L kd md ma f0 f ∧ va_P D vwCl (va_pl L f) t.heap ∧ va_K D vwCl tys t ∧ va_D (pA L sz) (va_pl L f)
section POOL
variable {p : Program} {l : Launch} {e : Env} {R : Room} {s : State} {m : MethodId} {args : Array Value} {below : List Frame} {meth : Method} {c : Code} {H : Heap} {locs : List Loc} {cells slots : Nat} {Q : State → Prop} {cc : ByteArray} {pc : Nat} {ls : Array Slot} {rest : List Value} {D : va_G} {tys : List (ClassId × FieldType)} {L : List Nat} {kd : Nat → Nat} {f0 f : Nat → va_E} {md : List (Nat × Nat)} {ma : List Nat} {fx : List Fct} {a : Nat}
theorem fx_at (g : G3 D L kd tys s f0 md ma f H locs fx) {i : Nat} {q : Fct} (h : fx[i]? = some q) : q.2.2.1 ∈ L ∧ kd q.2.2.1 = q.1 ∧ q.1 < 100 ∧ fV f q.2.2.1 q.2.1 = q.2.2.2 := g.2.2.2.2.1 q (List.mem_of_getElem? h)
theorem g_open (g : G3 D L kd tys s f0 md ma f H locs fx) (ha : a ∈ L) {ci : Nat} (hk : kd a = ci) (hci : ci < 100) : ∃ (q0 : Nat) (fs : List Value), (va_pl L f)[q0]? = some (a, .inr (ci, fs)) ∧ f a = .inr (ci, fs) ∧ fs.length = (FS ci).length ∧ ∀ (j : Nat) (t : rS), (FS ci)[j]? = some t → okV L kd t (fs.getD j .null) := by
  obtain ⟨q0, hq⟩ := va_pl_get (X := []) (f := f) ha
  have h1 := g.2.2.2.1 a ha
  rw [hk] at h1
  unfold okE at h1
  rw [if_pos hci] at h1
  obtain ⟨fs, h2, h3, h4⟩ := h1
  exact ⟨q0, fs, by rw [← h2]; exact hq, h2, h3, h4⟩
theorem fs_at {fs : List Value} {n k : Nat} (h : fs.length = n) (hk : k < n) : fs[k]? = some (fs.getD k .null) := by
  subst h
  rw [List.getD_eq_getElem?_getD, List.getElem?_eq_getElem hk]
  rfl
theorem G3.add (g : G3 D L kd tys s f0 md ma f H locs fx) {ci k : Nat} {v : Value} (ha : a ∈ L) (hk : kd a = ci) (hci : ci < 100) (h : fV f a k = v) : G3 D L kd tys s f0 md ma f H locs ((ci, k, a, v) :: fx) := by
  obtain ⟨h1, h2, h3, h4, h5, h6⟩ := g
  refine ⟨h1, h2, h3, h4, fun q hq => ?_, h6⟩
  rcases List.mem_cons.mp hq with rfl | hq
  · exact ⟨ha, hk, hci, h⟩
  · exact h5 q hq
theorem G3.sub (g : G3 D L kd tys s f0 md ma f H locs fx) {fx' : List Fct} (is : List Nat) (h : is.filterMap (fun i => fx[i]?) = fx') : G3 D L kd tys s f0 md ma f H locs fx' := by
  obtain ⟨h1, h2, h3, h4, h5, h6⟩ := g
  refine ⟨h1, h2, h3, h4, fun q hq => ?_, h6⟩
  subst h
  obtain ⟨i, -, hi⟩ := List.mem_filterMap.mp hq
  exact h5 q (List.mem_of_getElem? hi)
section GET
variable {own ref C : String} {T : u_T} {N ci index : Nat} {Ts : List Cond}
theorem g_getk (hx : p.tables.exec = Jvm.exec) (hb : c.code = cc) (hts : ∀ w ∈ Ts, w.before args s = true) (hin : ∀ w ∈ u_ws C T N, w ∈ Ts) (hown : s.vm.findClass own = some m.cls) (hK : va_K D vwCl tys s) (g : G3 D L kd tys s f0 md ma f H locs fx) (hc : vwCl[ci]? = some (C, T, N)) (k : Nat) (hkN : k < N) (hN : (FS ci).length = N) (hlink : (Cond.fieldLink own index ref (T k).2.1 (T k).2.2.1).before args s = true) (hsame : ∀ x, s.fieldFound? (T k).1 (T k).2.1 (T k).2.2.1 = some x → s.fieldFound? ref (T k).2.1 (T k).2.2.1 = some x) {v : Value} (i : Nat) (hi : fx[i]? = some (ci, k, a, v)) (hdg : decode cc pc = .ok (.getfield index, 3))
    (kk : W p l e R s m args below meth c H locs cells slots Q (F0 m (pc + 3) ls (v :: rest))) : W p l e R s m args below meth c H locs cells slots Q (F0 m pc ls (.ref a :: rest)) := by
  obtain ⟨ha, hk, hci, hv⟩ := fx_at g hi
  obtain ⟨q0, fs, h1, h2, h3, h4⟩ := g_open g ha hk hci
  have hv' : fs[k]? = some v := by
    rw [fs_at h3 (by rw [hN]; exact hkN)]
    simp only [fV, h2] at hv
    rw [hv]
  exact va_get hx hb hts hin hown hK g.1 q0 h1 hc k hkN hlink hsame hv' hdg kk
theorem g_getv (hx : p.tables.exec = Jvm.exec) (hb : c.code = cc) (hts : ∀ w ∈ Ts, w.before args s = true) (hin : ∀ w ∈ u_ws C T N, w ∈ Ts) (hown : s.vm.findClass own = some m.cls) (hK : va_K D vwCl tys s) (g : G3 D L kd tys s f0 md ma f H locs fx) (ha : a ∈ L) (hk : kd a = ci) (hci : ci < 100) (hc : vwCl[ci]? = some (C, T, N)) (k : Nat) (hkN : k < N) (hN : (FS ci).length = N) (hlink : (Cond.fieldLink own index ref (T k).2.1 (T k).2.2.1).before args s = true) (hsame : ∀ x, s.fieldFound? (T k).1 (T k).2.1 (T k).2.2.1 = some x → s.fieldFound? ref (T k).2.1 (T k).2.2.1 = some x) {t : rS} (ht : (FS ci)[k]? = some t) (hdg : decode cc pc = .ok (.getfield index, 3))
    (kk : ∀ v, okV L kd t v → G3 D L kd tys s f0 md ma f H locs ((ci, k, a, v) :: fx) → W p l e R s m args below meth c H locs cells slots Q (F0 m (pc + 3) ls (v :: rest))) : W p l e R s m args below meth c H locs cells slots Q (F0 m pc ls (.ref a :: rest)) := by
  obtain ⟨q0, fs, h1, h2, h3, h4⟩ := g_open g ha hk hci
  exact va_get hx hb hts hin hown hK g.1 q0 h1 hc k hkN hlink hsame (fs_at h3 (by rw [hN]; exact hkN)) hdg (kk _ (h4 k t ht) (g.add ha hk hci (by simp only [fV, h2])))
theorem g_geti (hx : p.tables.exec = Jvm.exec) (hb : c.code = cc) (hts : ∀ w ∈ Ts, w.before args s = true) (hin : ∀ w ∈ u_ws C T N, w ∈ Ts) (hown : s.vm.findClass own = some m.cls) (hK : va_K D vwCl tys s) (g : G3 D L kd tys s f0 md ma f H locs fx) (ha : a ∈ L) (hk : kd a = ci) (hci : ci < 100) (hc : vwCl[ci]? = some (C, T, N)) (k : Nat) (hkN : k < N) (hN : (FS ci).length = N) (hlink : (Cond.fieldLink own index ref (T k).2.1 (T k).2.2.1).before args s = true) (hsame : ∀ x, s.fieldFound? (T k).1 (T k).2.1 (T k).2.2.1 = some x → s.fieldFound? ref (T k).2.1 (T k).2.2.1 = some x) {lo hi : Int} (ht : (FS ci)[k]? = some ((0, lo, hi) : rS)) (hdg : decode cc pc = .ok (.getfield index, 3))
    (kk : ∀ x : Int32, bd lo hi x → G3 D L kd tys s f0 md ma f H locs ((ci, k, a, .int x) :: fx) → W p l e R s m args below meth c H locs cells slots Q (F0 m (pc + 3) ls (.int x :: rest))) : W p l e R s m args below meth c H locs cells slots Q (F0 m pc ls (.ref a :: rest)) :=
  g_getv hx hb hts hin hown hK g ha hk hci hc k hkN hN hlink hsame ht hdg (fun v h g => by obtain ⟨x, rfl, hx⟩ := h; exact kk x hx g)
theorem g_getl (hx : p.tables.exec = Jvm.exec) (hb : c.code = cc) (hts : ∀ w ∈ Ts, w.before args s = true) (hin : ∀ w ∈ u_ws C T N, w ∈ Ts) (hown : s.vm.findClass own = some m.cls) (hK : va_K D vwCl tys s) (g : G3 D L kd tys s f0 md ma f H locs fx) (ha : a ∈ L) (hk : kd a = ci) (hci : ci < 100) (hc : vwCl[ci]? = some (C, T, N)) (k : Nat) (hkN : k < N) (hN : (FS ci).length = N) (hlink : (Cond.fieldLink own index ref (T k).2.1 (T k).2.2.1).before args s = true) (hsame : ∀ x, s.fieldFound? (T k).1 (T k).2.1 (T k).2.2.1 = some x → s.fieldFound? ref (T k).2.1 (T k).2.2.1 = some x) {lo hi : Int} (ht : (FS ci)[k]? = some ((1, lo, hi) : rS)) (hdg : decode cc pc = .ok (.getfield index, 3))
    (kk : ∀ x : Int64, G3 D L kd tys s f0 md ma f H locs ((ci, k, a, .long x) :: fx) → W p l e R s m args below meth c H locs cells slots Q (F0 m (pc + 3) ls (.long x :: rest))) : W p l e R s m args below meth c H locs cells slots Q (F0 m pc ls (.ref a :: rest)) :=
  g_getv hx hb hts hin hown hK g ha hk hci hc k hkN hN hlink hsame ht hdg (fun v h g => by obtain ⟨x, rfl⟩ := h; exact kk x g)
theorem g_getr (hx : p.tables.exec = Jvm.exec) (hb : c.code = cc) (hts : ∀ w ∈ Ts, w.before args s = true) (hin : ∀ w ∈ u_ws C T N, w ∈ Ts) (hown : s.vm.findClass own = some m.cls) (hK : va_K D vwCl tys s) (g : G3 D L kd tys s f0 md ma f H locs fx) (ha : a ∈ L) (hk : kd a = ci) (hci : ci < 100) (hc : vwCl[ci]? = some (C, T, N)) (k : Nat) (hkN : k < N) (hN : (FS ci).length = N) (hlink : (Cond.fieldLink own index ref (T k).2.1 (T k).2.2.1).before args s = true) (hsame : ∀ x, s.fieldFound? (T k).1 (T k).2.1 (T k).2.2.1 = some x → s.fieldFound? ref (T k).2.1 (T k).2.2.1 = some x) {K : Nat} (ht : (FS ci)[k]? = some ((2, (K : Int), (K : Int)) : rS)) (hdg : decode cc pc = .ok (.getfield index, 3))
    (kk : ∀ b : Nat, b ∈ L → kd b = K → G3 D L kd tys s f0 md ma f H locs ((ci, k, a, .ref b) :: fx) → W p l e R s m args below meth c H locs cells slots Q (F0 m (pc + 3) ls (.ref b :: rest))) : W p l e R s m args below meth c H locs cells slots Q (F0 m pc ls (.ref a :: rest)) :=
  g_getv hx hb hts hin hown hK g ha hk hci hc k hkN hN hlink hsame ht hdg (fun v h g => by obtain ⟨b, rfl, h1, h2, h3⟩ := h; exact kk b h1 (by simp only at h2 h3; omega) g)
theorem g_getu (hx : p.tables.exec = Jvm.exec) (hb : c.code = cc) (hts : ∀ w ∈ Ts, w.before args s = true) (hin : ∀ w ∈ u_ws C T N, w ∈ Ts) (hown : s.vm.findClass own = some m.cls) (hK : va_K D vwCl tys s) (g : G3 D L kd tys s f0 md ma f H locs fx) (ha : a ∈ L) (hk : kd a = ci) (hci : ci < 100) (hc : vwCl[ci]? = some (C, T, N)) (k : Nat) (hkN : k < N) (hN : (FS ci).length = N) (hlink : (Cond.fieldLink own index ref (T k).2.1 (T k).2.2.1).before args s = true) (hsame : ∀ x, s.fieldFound? (T k).1 (T k).2.1 (T k).2.2.1 = some x → s.fieldFound? ref (T k).2.1 (T k).2.2.1 = some x) {lo hi : Nat} (ht : (FS ci)[k]? = some ((2, (lo : Int), (hi : Int)) : rS)) (hdg : decode cc pc = .ok (.getfield index, 3))
    (kk : ∀ b : Nat, b ∈ L → (lo ≤ kd b ∧ kd b ≤ hi) → G3 D L kd tys s f0 md ma f H locs ((ci, k, a, .ref b) :: fx) → W p l e R s m args below meth c H locs cells slots Q (F0 m (pc + 3) ls (.ref b :: rest))) : W p l e R s m args below meth c H locs cells slots Q (F0 m pc ls (.ref a :: rest)) :=
  g_getv hx hb hts hin hown hK g ha hk hci hc k hkN hN hlink hsame ht hdg (fun v h g => by obtain ⟨b, rfl, h1, h2, h3⟩ := h; exact kk b h1 (by simp only at h2 h3; omega) g)
end GET

theorem pl_put {A : Nat → Prop} (hD : va_D A (va_pl L f)) (ha : a ∈ L) {k : Nat} {x : va_E} (hk : (va_pl L f)[k]? = some (a, f a)) : (va_pl L f).set k (a, x) = va_pl L (va_up f a x) := va_pl_set (X := []) hD ha hk
theorem fV_up_ne {b j : Nat} {x : va_E} (h : b ≠ a) : fV (va_up f a x) b j = fV f b j := by unfold fV; rw [va_up_ne f x h]
theorem getD_set_ne {fs : List Value} {j k : Nat} {v : Value} (h : j ≠ k) : (fs.set k v).getD j .null = fs.getD j .null := by
  rw [List.getD_eq_getElem?_getD, List.getD_eq_getElem?_getD, List.getElem?_set_ne (Ne.symm h)]
theorem getD_set_self {fs : List Value} {k : Nat} {v : Value} (h : k < fs.length) : (fs.set k v).getD k .null = v := by
  rw [List.getD_eq_getElem?_getD, List.getElem?_set_self h]
  rfl
theorem Md.put {ci k : Nat} {v : Value} {fs : List Value} (ha : a ∈ L) (hk : kd a = ci) (hci : ci < 100) (hfa : f a = .inr (ci, fs)) : Md L kd [(ci, k), (8, 108)] [] f (va_up f a (.inr (ci, fs.set k v))) := by
  refine fun b hb => ⟨fun j hbc hj => ?_, fun hb1 hb2 => ?_, fun hn8 _ _ => absurd (by simp) hn8⟩
  · by_cases hba : b = a
    · subst hba
      have hj' : j ≠ k := by
        intro q
        subst q
        rw [hk] at hj
        exact hj (by simp)
      simp only [fV, va_up_self, hfa]
      exact getD_set_ne hj'
    · exact fV_up_ne hba
  · exact va_up_ne f _ (by intro hba; rw [hba, hk] at hb1; omega)
theorem Md.ast {K : Nat} {x : va_E} (hk : kd a = K) (hK : 100 ≤ K) : Md L kd [] [K] f (va_up f a x) := by
  refine fun b hb => ⟨fun j hbc hj => fV_up_ne (by intro hba; rw [hba, hk] at hbc; omega), fun hb1 hb2 => va_up_ne f _ (by intro hba; rw [hba, hk] at hb2; exact hb2 (by simp)), fun hn8 hb8 h08 => ?_⟩
  rw [fV_up_ne (by intro hba; rw [hba, hk] at hb8; omega)]
  exact h08
theorem G3.put (g : G3 D L kd tys s f0 md ma f H locs fx) {ci k : Nat} {v : Value} {t : rS} {fs : List Value} {H1 : Heap} {locs1 : List Loc} {fx' : List Fct} (ha : a ∈ L) (hk : kd a = ci) (hci : ci < 100) (hfa : f a = .inr (ci, fs)) (hlen : fs.length = (FS ci).length) (hall : ∀ (j : Nat) (t : rS), (FS ci)[j]? = some t → okV L kd t (fs.getD j .null)) (ht : (FS ci)[k]? = some t) (hv : okV L kd t v) (hmd : (ci, k) ∈ md) (hst : (8, 108) ∈ md ∨ (ci == 8 && k == 8) = false ∨ v ≠ .int 0) (hfx : fx.filter (fun q => !(q.1 == ci && q.2.1 == k)) = fx')
    (hP1 : va_P D vwCl (va_pl L (va_up f a (.inr (ci, fs.set k v)))) H1) (hD1 : va_D (pA L s.heap.size) (va_pl L (va_up f a (.inr (ci, fs.set k v))))) (hS1 : va_S (pA L s.heap.size) s.heap H1 locs1) : G3 D L kd tys s f0 md ma (va_up f a (.inr (ci, fs.set k v))) H1 locs1 ((ci, k, a, v) :: fx') := by
  obtain ⟨h1, h2, h3, h4, h5, h6⟩ := g
  have hkl : k < fs.length := by rw [hlen]; exact (List.getElem?_eq_some_iff.mp ht).1
  refine ⟨hP1, hD1, hS1, fun b hb => ?_, fun q hq => ?_, fun b hb => ⟨fun j hbc hj => ?_, fun hb1 hb2 => ?_, fun hn8 hb8 h08 => ?_⟩⟩
  · by_cases hba : b = a
    · subst hba
      rw [va_up_self, hk]
      unfold okE
      rw [if_pos hci]
      refine ⟨fs.set k v, rfl, by rw [List.length_set]; exact hlen, fun j t' hj => ?_⟩
      by_cases hjk : j = k
      · subst hjk
        rw [getD_set_self hkl]
        rw [ht] at hj
        cases hj
        exact hv
      · rw [getD_set_ne hjk]
        exact hall j t' hj
    · rw [va_up_ne f _ hba]
      exact h4 b hb
  · rcases List.mem_cons.mp hq with rfl | hq
    · refine ⟨ha, hk, hci, ?_⟩
      simp only [fV, va_up_self]
      exact getD_set_self hkl
    · subst hfx
      obtain ⟨hq1, hq2⟩ := List.mem_filter.mp hq
      obtain ⟨e1, e2, e3, e4⟩ := h5 q hq1
      refine ⟨e1, e2, e3, ?_⟩
      by_cases hba : q.2.2.1 = a
      · have hc : q.1 = ci := by rw [← e2, hba]; exact hk
        have hj : q.2.1 ≠ k := by
          intro hj
          rw [hc, hj] at hq2
          simp at hq2
        rw [hba] at e4 ⊢
        simp only [fV, va_up_self]
        rw [getD_set_ne hj]
        simpa only [fV, hfa] using e4
      · rw [fV_up_ne hba]
        exact e4
  · by_cases hba : b = a
    · subst hba
      have hj' : j ≠ k := by
        intro q
        subst q
        rw [hk] at hj
        exact hj hmd
      rw [← (h6 b hb).1 j hbc hj]
      simp only [fV, va_up_self, hfa]
      exact getD_set_ne hj'
    · rw [fV_up_ne hba]
      exact (h6 b hb).1 j hbc hj
  · by_cases hba : b = a
    · subst hba
      omega
    · rw [va_up_ne f _ hba]
      exact (h6 b hb).2.1 hb1 hb2
  · by_cases hba : b = a
    · subst hba
      have hc8 : ci = 8 := by omega
      subst hc8
      by_cases hk8 : k = 8
      · subst hk8
        rcases hst with h | h | h
        · exact absurd h hn8
        · exact absurd h (by decide)
        · simp only [fV, va_up_self]
          rw [getD_set_self hkl]
          exact h
      · have h9 := (h6 b hb).2.2 hn8 hb8 h08
        simp only [fV, hfa] at h9
        simp only [fV, va_up_self]
        rw [getD_set_ne (Ne.symm hk8)]
        exact h9
    · rw [fV_up_ne hba]
      exact (h6 b hb).2.2 hn8 hb8 h08
section PUT
variable {own ref C : String} {T : u_T} {N ci index : Nat} {Ts : List Cond}
theorem g_put (hx : p.tables.exec = Jvm.exec) (hb : c.code = cc) (hts : ∀ w ∈ Ts, w.before args s = true) (hin : ∀ w ∈ u_ws C T N, w ∈ Ts) (ty0 : Nat → FieldType) (hty : ∀ k, k < N → parseFieldDescriptor (T k).2.2.1 = some (ty0 k)) (hnm : ∀ a, a < N → ∀ b, b < N → a ≠ b → (T a).2.1 ≠ (T b).2.1) (hown : s.vm.findClass own = some m.cls) (hK : va_K D vwCl tys s) (g : G3 D L kd tys s f0 md ma f H locs fx) (ha : a ∈ L) (hk : kd a = ci) (hci : ci < 100) (hc : vwCl[ci]? = some (C, T, N)) (k : Nat) (hkN : k < N) (hlink : (Cond.fieldLink own index ref (T k).2.1 (T k).2.2.1).before args s = true) (hsame : ∀ x, s.fieldFound? (T k).1 (T k).2.1 (T k).2.2.1 = some x → s.fieldFound? ref (T k).2.1 (T k).2.2.1 = some x) (hfin : (T k).2.2.2 = false) {v : Value} {t : rS} (ht : (FS ci)[k]? = some t) (hv : okV L kd t v) (hn : narrow (ty0 k) v = v) (hfit : fits (ty0 k) v = true) (hmd : (ci, k) ∈ md) (hst : (8, 108) ∈ md ∨ (ci == 8 && k == 8) = false ∨ v ≠ .int 0) {fx' : List Fct} (hfx : fx.filter (fun q => !(q.1 == ci && q.2.1 == k)) = fx') (hdg : decode cc pc = .ok (.putfield index, 3))
    (kk : ∀ (f1 : Nat → va_E) (H : Heap) (locs : List Loc), Md L kd [(ci, k), (8, 108)] [] f f1 → G3 D L kd tys s f0 md ma f1 H locs ((ci, k, a, v) :: fx') → W p l e R s m args below meth c H locs cells slots Q (F0 m (pc + 3) ls rest)) : W p l e R s m args below meth c H locs cells slots Q (F0 m pc ls (v :: .ref a :: rest)) := by
  obtain ⟨q0, fs, h1, h2, h3, h4⟩ := g_open g ha hk hci
  have hkl : k < fs.length := by rw [h3]; exact (List.getElem?_eq_some_iff.mp ht).1
  refine va_put hx hb hts hin ty0 hty hnm hown hK g.1 g.2.1 g.2.2.1 q0 h1 hc k hkN hlink hsame hfin (hty k hkN) hn hfit hkl hdg (fun H1 locs1 hP1 hD1 hS1 => ?_)
  have hq : (va_pl L f)[q0]? = some (a, f a) := by rw [h2]; exact h1
  rw [pl_put g.2.1 ha hq] at hP1 hD1
  exact kk _ H1 locs1 (Md.put ha hk hci h2) (g.put ha hk hci h2 h3 h4 ht hv hmd hst hfx hP1 hD1 hS1)
end PUT
theorem G3.ast (g : G3 D L kd tys s f0 md ma f H locs fx) {K : Nat} {x : va_E} {H1 : Heap} {locs1 : List Loc} (ha : a ∈ L) (hk : kd a = K) (hK : 100 ≤ K) (hx : okE L kd tys K x) (hma : K ∈ ma) (hP1 : va_P D vwCl (va_pl L (va_up f a x)) H1) (hD1 : va_D (pA L s.heap.size) (va_pl L (va_up f a x))) (hS1 : va_S (pA L s.heap.size) s.heap H1 locs1) : G3 D L kd tys s f0 md ma (va_up f a x) H1 locs1 fx := by
  obtain ⟨h1, h2, h3, h4, h5, h6⟩ := g
  refine ⟨hP1, hD1, hS1, fun b hb => ?_, fun q hq => ?_, fun b hb => ⟨fun j hbc hj => ?_, fun hb1 hb2 => ?_, fun hn8 hb8 h08 => ?_⟩⟩
  · by_cases hba : b = a
    · subst hba
      rw [va_up_self, hk]
      exact hx
    · rw [va_up_ne f _ hba]
      exact h4 b hb
  · obtain ⟨e1, e2, e3, e4⟩ := h5 q hq
    refine ⟨e1, e2, e3, ?_⟩
    rw [fV_up_ne (by intro hba; rw [hba, hk] at e2; omega)]
    exact e4
  · rw [fV_up_ne (by intro hba; rw [hba, hk] at hbc; omega)]
    exact (h6 b hb).1 j hbc hj
  · rw [va_up_ne f _ (by intro hba; rw [hba, hk] at hb2; exact hb2 hma)]
    exact (h6 b hb).2.1 hb1 hb2
  · rw [fV_up_ne (by intro hba; rw [hba, hk] at hb8; omega)]
    exact (h6 b hb).2.2 hn8 hb8 h08
theorem ok_arr (g : G3 D L kd tys s f0 md ma f H locs fx) (ha : a ∈ L) {K : Nat} (hk : kd a = K) : ∃ q0 : Nat, (va_pl L f)[q0]? = some (a, f a) ∧ okE L kd tys K (f a) := by
  obtain ⟨q0, hq⟩ := va_pl_get (X := []) (f := f) ha
  have h1 := g.2.2.2.1 a ha
  rw [hk] at h1
  exact ⟨q0, hq, h1⟩
theorem in_toNat {i : Int32} {n : Nat} (h : vp_in i n) : i.toNatClampNeg < n := Nat.not_le.mp fun q => h (Or.inr q)
theorem okI_up {tys : List (ClassId × FieldType)} {ty : FieldType} {n : Nat} {lo hi : Int} {cA : ClassId} {t0 : Nat} {f : Nat → Int32} {k : Nat} {x : Int32} (ht : tys[t0]? = some (cA, ty)) (hf : ∀ i, i < n → bd lo hi (f i)) (hx : bd lo hi x) : okI tys ty n lo hi (.inl (cA, n, .inl (upd f k x))) := by
  refine ⟨cA, t0, upd f k x, rfl, ht, fun i hi => ?_⟩
  unfold upd
  split
  · exact hx
  · exact hf i hi
section ARR
variable {K n : Nat} {lo hi : Int} {i : Int32}
theorem okE_i {e : va_E} (hK : 100 ≤ K) (hA : AT K = (0, n, lo, hi)) : okE L kd tys K e = okI tys .int n lo hi e := by unfold okE; rw [if_neg (by omega), hA]; rfl
theorem okE_b {e : va_E} (hK : 100 ≤ K) (hA : AT K = (1, n, lo, hi)) : okE L kd tys K e = okI tys .byte n lo hi e := by unfold okE; rw [if_neg (by omega), hA]; rfl
theorem okE_z {e : va_E} (hK : 100 ≤ K) (hA : AT K = (2, n, lo, hi)) : okE L kd tys K e = okI tys .boolean n lo hi e := by unfold okE; rw [if_neg (by omega), hA]; rfl
theorem okE_l {e : va_E} (hK : 100 ≤ K) (hA : AT K = (3, n, lo, hi)) : okE L kd tys K e = okJ tys n e := by unfold okE; rw [if_neg (by omega), hA]; rfl
theorem g_iald (hx : p.tables.exec = Jvm.exec) (hb : c.code = cc) (hK : va_K D vwCl tys s) (g : G3 D L kd tys s f0 md ma f H locs fx) (ha : a ∈ L) (hk : kd a = K) (hK1 : 100 ≤ K) (hA : AT K = (0, n, lo, hi)) (hin : vp_in i n) (hdg : decode cc pc = .ok (.iaload, 1)) (kk : ∀ x : Int32, bd lo hi x → x = aI f a i.toNatClampNeg → W p l e R s m args below meth c H locs cells slots Q (F0 m (pc + 1) ls (.int x :: rest))) : W p l e R s m args below meth c H locs cells slots Q (F0 m pc ls (.int i :: .ref a :: rest)) := by
  obtain ⟨q0, h1, h2⟩ := ok_arr g ha hk
  rw [okE_i hK1 hA] at h2
  obtain ⟨cA, t0, h, e1, e2, e3⟩ := h2
  rw [e1] at h1
  exact va_iald hx hb hK g.1 q0 t0 h1 e2 hin hdg (kk _ (e3 _ (in_toNat hin)) (by unfold aI; rw [e1]))
theorem g_bald (hx : p.tables.exec = Jvm.exec) (hb : c.code = cc) (hK : va_K D vwCl tys s) (g : G3 D L kd tys s f0 md ma f H locs fx) (ha : a ∈ L) (hk : kd a = K) (hK1 : 100 ≤ K) (hA : AT K = (1, n, lo, hi)) (hin : vp_in i n) (hdg : decode cc pc = .ok (.baload, 1)) (kk : ∀ x : Int32, bd lo hi x → W p l e R s m args below meth c H locs cells slots Q (F0 m (pc + 1) ls (.int x :: rest))) : W p l e R s m args below meth c H locs cells slots Q (F0 m pc ls (.int i :: .ref a :: rest)) := by
  obtain ⟨q0, h1, h2⟩ := ok_arr g ha hk
  rw [okE_b hK1 hA] at h2
  obtain ⟨cA, t0, h, e1, e2, e3⟩ := h2
  rw [e1] at h1
  exact va_bald hx hb hK g.1 q0 t0 h1 e2 hin hdg (kk _ (e3 _ (in_toNat hin)))
theorem g_zald (hx : p.tables.exec = Jvm.exec) (hb : c.code = cc) (hK : va_K D vwCl tys s) (g : G3 D L kd tys s f0 md ma f H locs fx) (ha : a ∈ L) (hk : kd a = K) (hK1 : 100 ≤ K) (hA : AT K = (2, n, lo, hi)) (hin : vp_in i n) (hdg : decode cc pc = .ok (.baload, 1)) (kk : ∀ x : Int32, bd lo hi x → W p l e R s m args below meth c H locs cells slots Q (F0 m (pc + 1) ls (.int x :: rest))) : W p l e R s m args below meth c H locs cells slots Q (F0 m pc ls (.int i :: .ref a :: rest)) := by
  obtain ⟨q0, h1, h2⟩ := ok_arr g ha hk
  rw [okE_z hK1 hA] at h2
  obtain ⟨cA, t0, h, e1, e2, e3⟩ := h2
  rw [e1] at h1
  exact va_zald hx hb hK g.1 q0 t0 h1 e2 hin hdg (kk _ (e3 _ (in_toNat hin)))
theorem g_lald (hx : p.tables.exec = Jvm.exec) (hb : c.code = cc) (hK : va_K D vwCl tys s) (g : G3 D L kd tys s f0 md ma f H locs fx) (ha : a ∈ L) (hk : kd a = K) (hK1 : 100 ≤ K) (hA : AT K = (3, n, lo, hi)) (hin : vp_in i n) (hdg : decode cc pc = .ok (.laload, 1)) (kk : ∀ x : Int64, W p l e R s m args below meth c H locs cells slots Q (F0 m (pc + 1) ls (.long x :: rest))) : W p l e R s m args below meth c H locs cells slots Q (F0 m pc ls (.int i :: .ref a :: rest)) := by
  obtain ⟨q0, h1, h2⟩ := ok_arr g ha hk
  rw [okE_l hK1 hA] at h2
  obtain ⟨cA, t0, h, e1, e2⟩ := h2
  rw [e1] at h1
  exact va_lald hx hb hK g.1 q0 t0 h1 e2 hin hdg (kk _)
theorem g_iast (hx : p.tables.exec = Jvm.exec) (hb : c.code = cc) (hK : va_K D vwCl tys s) (g : G3 D L kd tys s f0 md ma f H locs fx) (ha : a ∈ L) (hk : kd a = K) (hK1 : 100 ≤ K) (hA : AT K = (0, n, lo, hi)) (hin : vp_in i n) {x : Int32} (hxb : bd lo hi x) (hma : K ∈ ma) (hdg : decode cc pc = .ok (.iastore, 1)) (kk : ∀ (f1 : Nat → va_E) (H : Heap) (locs : List Loc), Md L kd [] [K] f f1 → G3 D L kd tys s f0 md ma f1 H locs fx → W p l e R s m args below meth c H locs cells slots Q (F0 m (pc + 1) ls rest)) : W p l e R s m args below meth c H locs cells slots Q (F0 m pc ls (.int x :: .int i :: .ref a :: rest)) := by
  obtain ⟨q0, h1, h2⟩ := ok_arr g ha hk
  have hq := h1
  rw [okE_i hK1 hA] at h2
  obtain ⟨cA, t0, h, e1, e2, e3⟩ := h2
  rw [e1] at h1
  refine va_iast hx hb hK g.1 g.2.1 g.2.2.1 q0 t0 h1 e2 hin hdg (fun H1 locs1 hP1 hD1 hS1 => ?_)
  rw [pl_put g.2.1 ha hq] at hP1 hD1
  exact kk _ H1 locs1 (Md.ast hk hK1) (g.ast ha hk hK1 (by rw [okE_i hK1 hA]; exact okI_up e2 e3 hxb) hma hP1 hD1 hS1)
theorem nar_b_bd (x : Int32) : bd (-128) 127 (vp_nar .byte x) := by
  show bd (-128) 127 (x.toInt8.toInt32)
  have h1 := Int8.toInt_toInt32 (x := x.toInt8)
  have h2 := Int8.le_toInt x.toInt8
  have h3 := Int8.toInt_lt x.toInt8
  unfold bd
  omega
theorem g_bast (hx : p.tables.exec = Jvm.exec) (hb : c.code = cc) (hK : va_K D vwCl tys s) (g : G3 D L kd tys s f0 md ma f H locs fx) (ha : a ∈ L) (hk : kd a = K) (hK1 : 100 ≤ K) (hA : AT K = (1, n, -128, 127)) (hin : vp_in i n) {x : Int32} (hma : K ∈ ma) (hdg : decode cc pc = .ok (.bastore, 1)) (kk : ∀ (f1 : Nat → va_E) (H : Heap) (locs : List Loc), Md L kd [] [K] f f1 → G3 D L kd tys s f0 md ma f1 H locs fx → W p l e R s m args below meth c H locs cells slots Q (F0 m (pc + 1) ls rest)) : W p l e R s m args below meth c H locs cells slots Q (F0 m pc ls (.int x :: .int i :: .ref a :: rest)) := by
  obtain ⟨q0, h1, h2⟩ := ok_arr g ha hk
  have hq := h1
  rw [okE_b hK1 hA] at h2
  obtain ⟨cA, t0, h, e1, e2, e3⟩ := h2
  rw [e1] at h1
  refine va_bast hx hb hK g.1 g.2.1 g.2.2.1 q0 t0 h1 e2 hin hdg (fun H1 locs1 hP1 hD1 hS1 => ?_)
  rw [pl_put g.2.1 ha hq] at hP1 hD1
  exact kk _ H1 locs1 (Md.ast hk hK1) (g.ast ha hk hK1 (by rw [okE_b hK1 hA]; exact okI_up e2 e3 (nar_b_bd x)) hma hP1 hD1 hS1)
theorem vp_nar_z {x : Int32} (h : bd 0 1 x) : vp_nar .boolean x = x := by unfold vp_nar; rw [nar_z h.1 h.2]
theorem g_zast (hx : p.tables.exec = Jvm.exec) (hb : c.code = cc) (hK : va_K D vwCl tys s) (g : G3 D L kd tys s f0 md ma f H locs fx) (ha : a ∈ L) (hk : kd a = K) (hK1 : 100 ≤ K) (hA : AT K = (2, n, 0, 1)) (hin : vp_in i n) {x : Int32} (hxb : bd 0 1 x) (hma : K ∈ ma) (hdg : decode cc pc = .ok (.bastore, 1)) (kk : ∀ (f1 : Nat → va_E) (H : Heap) (locs : List Loc), Md L kd [] [K] f f1 → G3 D L kd tys s f0 md ma f1 H locs fx → W p l e R s m args below meth c H locs cells slots Q (F0 m (pc + 1) ls rest)) : W p l e R s m args below meth c H locs cells slots Q (F0 m pc ls (.int x :: .int i :: .ref a :: rest)) := by
  obtain ⟨q0, h1, h2⟩ := ok_arr g ha hk
  have hq := h1
  rw [okE_z hK1 hA] at h2
  obtain ⟨cA, t0, h, e1, e2, e3⟩ := h2
  rw [e1] at h1
  refine va_zast hx hb hK g.1 g.2.1 g.2.2.1 q0 t0 h1 e2 hin hdg (fun H1 locs1 hP1 hD1 hS1 => ?_)
  rw [pl_put g.2.1 ha hq] at hP1 hD1
  exact kk _ H1 locs1 (Md.ast hk hK1) (g.ast ha hk hK1 (by rw [okE_z hK1 hA]; exact okI_up e2 e3 (by rw [vp_nar_z hxb]; exact hxb)) hma hP1 hD1 hS1)
theorem g_last (hx : p.tables.exec = Jvm.exec) (hb : c.code = cc) (hK : va_K D vwCl tys s) (g : G3 D L kd tys s f0 md ma f H locs fx) (ha : a ∈ L) (hk : kd a = K) (hK1 : 100 ≤ K) (hA : AT K = (3, n, lo, hi)) (hin : vp_in i n) {x : Int64} (hma : K ∈ ma) (hdg : decode cc pc = .ok (.lastore, 1)) (kk : ∀ (f1 : Nat → va_E) (H : Heap) (locs : List Loc), Md L kd [] [K] f f1 → G3 D L kd tys s f0 md ma f1 H locs fx → W p l e R s m args below meth c H locs cells slots Q (F0 m (pc + 1) ls rest)) : W p l e R s m args below meth c H locs cells slots Q (F0 m pc ls (.long x :: .int i :: .ref a :: rest)) := by
  obtain ⟨q0, h1, h2⟩ := ok_arr g ha hk
  have hq := h1
  rw [okE_l hK1 hA] at h2
  obtain ⟨cA, t0, h, e1, e2⟩ := h2
  rw [e1] at h1
  refine va_last hx hb hK g.1 g.2.1 g.2.2.1 q0 t0 h1 e2 hin hdg (fun H1 locs1 hP1 hD1 hS1 => ?_)
  rw [pl_put g.2.1 ha hq] at hP1 hD1
  exact kk _ H1 locs1 (Md.ast hk hK1) (g.ast ha hk hK1 (by rw [okE_l hK1 hA]; exact ⟨cA, t0, _, rfl, e2⟩) hma hP1 hD1 hS1)
end ARR

theorem bdT (x : Int32) : bd (-2147483648) 2147483647 x := tb_ x
theorem in_bd {lo hi : Int} {i : Int32} {n : Nat} (h : bd lo hi i) (h1 : 0 ≤ lo ∧ hi < (n : Int)) : vp_in i n := in_ok (Int.le_trans h1.1 h.1) (Int.lt_of_le_of_lt h.2 h1.2)
theorem bd_sub {lo hi a b : Int} {x : Int32} (h : bd lo hi x) (h1 : a ≤ lo ∧ hi ≤ b) : bd a b x := ⟨Int.le_trans h1.1 h.1, Int.le_trans h.2 h1.2⟩
theorem bd_no {lo hi : Int} {x : Int32} {C : Prop} (h : bd lo hi x) (h1 : hi < lo) : C := absurd (Int.le_trans h.1 h.2) (Int.not_le.mpr h1)
theorem rfL {a b c d k hi : Int} {x y : Int32} (h : x.toInt ≤ y.toInt + k) (hx : bd a b x) (hy : bd c d y) (hh : d + k ≤ hi) : bd a hi x := ⟨hx.1, by have := hy.2; omega⟩
theorem rfR {a b c d k lo : Int} {x y : Int32} (h : x.toInt ≤ y.toInt + k) (hx : bd a b x) (hy : bd c d y) (hh : lo ≤ a - k) : bd lo d y := ⟨by have := hx.1; omega, hy.2⟩
theorem neLo {a b c : Int} {x : Int32} (h : x.toInt ≠ c) (hx : bd a b x) (hh : c = a) : bd (a + 1) b x := ⟨by have := hx.1; omega, hx.2⟩
theorem neHi {a b c : Int} {x : Int32} (h : x.toInt ≠ c) (hx : bd a b x) (hh : c = b) : bd a (b - 1) x := ⟨hx.1, by have := hx.2; omega⟩
theorem add_bd {a b c d : Int} {x y z : Int32} (e : z = x + y) (hx : bd a b x) (hy : bd c d y) (h : -2147483648 ≤ a + c ∧ b + d ≤ 2147483647) : z.toInt = x.toInt + y.toInt := by
  obtain ⟨h1, h2⟩ := hx
  obtain ⟨h3, h4⟩ := hy
  rw [e]
  exact add_ok (by omega) (by omega)
theorem sub_bd {a b c d : Int} {x y z : Int32} (e : z = x - y) (hx : bd a b x) (hy : bd c d y) (h : -2147483648 ≤ a - d ∧ b - c ≤ 2147483647) : z.toInt = x.toInt - y.toInt := by
  obtain ⟨h1, h2⟩ := hx
  obtain ⟨h3, h4⟩ := hy
  rw [e]
  exact sub_ok (by omega) (by omega)
theorem add_rg {a b c d lo hi : Int} {x y z : Int32} (e : z.toInt = x.toInt + y.toInt) (hx : bd a b x) (hy : bd c d y) (h : lo = a + c ∧ hi = b + d) : bd lo hi z := ⟨by have := hx.1; have := hy.1; omega, by have := hx.2; have := hy.2; omega⟩
theorem sub_rg {a b c d lo hi : Int} {x y z : Int32} (e : z.toInt = x.toInt - y.toInt) (hx : bd a b x) (hy : bd c d y) (h : lo = a - d ∧ hi = b - c) : bd lo hi z := ⟨by have := hx.1; have := hy.2; omega, by have := hx.2; have := hy.1; omega⟩
theorem mulc_rg {a b k lo hi : Int} {x z : Int32} (e : z.toInt = x.toInt * k) (hx : bd a b x) (h : (0 ≤ k ∧ lo = a * k ∧ hi = b * k)) : bd lo hi z := by
  obtain ⟨h0, h1, h2⟩ := h
  subst h1; subst h2
  exact ⟨by rw [e]; exact Int.mul_le_mul_of_nonneg_right hx.1 h0, by rw [e]; exact Int.mul_le_mul_of_nonneg_right hx.2 h0⟩
theorem mulc_bd {a b c : Int} {x y z : Int32} (e : z = x * y) (hy : y.toInt = c) (hx : bd a b x) (h : 0 ≤ c ∧ -2147483648 ≤ a * c ∧ b * c ≤ 2147483647) : z.toInt = x.toInt * c := by
  rw [e]
  exact mulc_ok hy (Int.le_trans h.2.1 (Int.mul_le_mul_of_nonneg_right hx.1 h.1)) (Int.le_trans (Int.mul_le_mul_of_nonneg_right hx.2 h.1) h.2.2)
theorem cmul_bd {a b c : Int} {x y z : Int32} (e : z = y * x) (hy : y.toInt = c) (hx : bd a b x) (h : 0 ≤ c ∧ -2147483648 ≤ a * c ∧ b * c ≤ 2147483647) : z.toInt = x.toInt * c := mulc_bd (by rw [e, Int32.mul_comm]) hy hx h
section ARR2
variable {K n : Nat} {lo hi : Int} {i : Int32}
theorem g_aald (hx : p.tables.exec = Jvm.exec) (hb : c.code = cc) (hK : va_K D vwCl tys s) (g : G3 D L kd tys s f0 md ma f H locs fx) (ha : a ∈ L) (hk : kd a = K) (hK1 : 100 ≤ K) {st : Nat} (hA : AT K = (st, n, lo, hi)) (hst : 4 ≤ st ∧ st ≤ 6) (hin : vp_in i n) (hdg : decode cc pc = .ok (.aaload, 1)) (kk : ∀ b : Nat, b ∈ L → lo ≤ kd b → kd b ≤ hi → W p l e R s m args below meth c H locs cells slots Q (F0 m (pc + 1) ls (.ref b :: rest))) : W p l e R s m args below meth c H locs cells slots Q (F0 m pc ls (.int i :: .ref a :: rest)) := by
  obtain ⟨q0, h1, h2⟩ := ok_arr g ha hk
  have h3 : ∃ ty : FieldType, ty.isReference = true ∧ okR L kd tys ty n lo hi (f a) := by
    unfold okE at h2
    rw [if_neg (by omega), hA] at h2
    match st, hst, h2 with
    | 4, _, h2 => exact ⟨_, rfl, h2⟩
    | 5, _, h2 => exact ⟨_, rfl, h2⟩
    | 6, _, h2 => exact ⟨_, rfl, h2⟩
    | n + 7, h, _ => exact absurd h.2 (by omega)
  obtain ⟨ty, hty, cA, t0, h, e1, e2, e3⟩ := h3
  obtain ⟨b, e4, e5, e6, e7⟩ := e3 _ (in_toNat hin)
  rw [e1] at h1
  have hc : H[a]? = some (arrV cA n (fun j => va_rf (h j))) := g.1 q0 _ h1
  refine W.aald hx hb hc ((hK.2 t0 _ e2).1 n (fun j => va_rf (h j))) hty (fun q => by cases q) (by show ¬ (i < 0 ∨ (arrV _ _ _).slots.size ≤ _); rw [arrV_size]; exact hin) (v := .ref b) ?_ rfl rfl hdg (kk b e5 e6 e7)
  rw [arrV_read _ _ (in_toNat hin), e4]
  rfl
theorem ok_len (hK1 : 100 ≤ K) (h : okE L kd tys K (f a)) : ∃ (cA : ClassId) (x : vp_A) (t0 : Nat) (ty : FieldType), f a = .inl (cA, x) ∧ x.1 = (AT K).2.1 ∧ tys[t0]? = some (cA, ty) := by
  unfold okE at h
  rw [if_neg (by omega)] at h
  split at h
  all_goals first
    | (obtain ⟨cA, t0, g, e1, e2, -⟩ := h; exact ⟨cA, _, t0, _, e1, rfl, e2⟩)
    | (obtain ⟨⟨cA, t0, g, e1, e2, -⟩, -⟩ := h; exact ⟨cA, _, t0, _, e1, rfl, e2⟩)
    | (obtain ⟨cA, t0, g, e1, e2⟩ := h; exact ⟨cA, _, t0, _, e1, rfl, e2⟩)
theorem g_alen (hx : p.tables.exec = Jvm.exec) (hb : c.code = cc) (hK : va_K D vwCl tys s) (g : G3 D L kd tys s f0 md ma f H locs fx) (ha : a ∈ L) (hk : kd a = K) (hK1 : 100 ≤ K) {v : Int32} (hv : Int32.ofNat (AT K).2.1 = v) (hdg : decode cc pc = .ok (.arraylength, 1)) (kk : W p l e R s m args below meth c H locs cells slots Q (F0 m (pc + 1) ls (.int v :: rest))) : W p l e R s m args below meth c H locs cells slots Q (F0 m pc ls (.ref a :: rest)) := by
  obtain ⟨q0, h1, h2⟩ := ok_arr g ha hk
  obtain ⟨cA, x, t0, ty, e1, e2, e3⟩ := ok_len hK1 h2
  rw [e1] at h1
  exact va_alen hx hb hK g.1 q0 t0 h1 e3 (by rw [e2]; exact hv) hdg kk
end ARR2
theorem Md.rf : Md L kd md ma f f := fun _ _ => ⟨fun _ _ _ => rfl, fun _ _ => rfl, fun _ _ h => h⟩
theorem G3.start {fx : List Fct} (hP : va_P D vwCl (va_pl L f) s.heap) (hD : va_D (fun _ => True) (va_pl L f)) (hW : WT L kd tys f) (hF : Fs L kd f fx) : G3 D L kd tys s f md ma f s.heap [] fx := by
  refine ⟨hP, ⟨hD.1, fun k q hk => Or.inl ?_⟩, va_S.rf, hW, hF, Md.rf⟩
  obtain ⟨a, ha, rfl⟩ := List.mem_map.mp (List.mem_of_getElem? hk)
  exact ha
theorem q3_of (g : G3 D L kd tys s f0 md ma f H locs fx) (hK : va_K D vwCl tys s) {t : State} (ht : t.heap = H) (hW : s.WarmedH t.vm) : Q3 D L kd tys md ma f0 s.heap.size f t := ⟨g.2.2.2.1, g.2.2.2.2.2, by rw [ht]; exact g.1, va_K.moved hW.alike hK, g.2.1⟩
theorem p3_blind {av : List Value} {sz : Nat} : FrameBlind (va_Pc av (P3 D L tys f sz)) := fun a U g mk q => by
  obtain ⟨q0, q1, qP, qK, qD⟩ := q
  exact ⟨q0, q1, qP, va_K.moved (u := U) (U := U.calling g mk a) (Vm.Alike.refl U.vm) qK, qD⟩
theorem p3_at (g : G3 D L kd tys s f0 md ma f H locs fx) (hK : va_K D vwCl tys s) {U : State} (hU : U.heap = H) (hW : s.WarmedH U.vm) : P3 D L tys f H.size U := ⟨by rw [hU], by rw [hU]; exact g.1, va_K.moved hW.alike hK, g.2.1.weaken (fun _ _ _ _ => trivial)⟩
theorem pre3V (g : G3 D L kd tys s f0 md ma f H locs fx) (hK : va_K D vwCl tys s) (ha : a ∈ L) {ci : Nat} (hk : kd a = ci) (hci : ci < 100) {q : vw_C} (hc : vwCl[ci]? = some q) {As : List Value} : PreV s H q.1 a (va_Pc (.ref a :: As) (P3 D L tys f H.size)) As := by
  obtain ⟨q0, fs, h1, -⟩ := g_open g ha hk hci
  exact ⟨p3_blind, va_recv hK g.1 hc h1, fun U hU hW => ⟨rfl, p3_at g hK hU hW⟩⟩
theorem pre3S (g : G3 D L kd tys s f0 md ma f H locs fx) (hK : va_K D vwCl tys s) {As : List Value} : PreS s H (va_Pc As (P3 D L tys f H.size)) As := ⟨p3_blind, fun U hU hW => ⟨rfl, p3_at g hK hU hW⟩⟩
theorem G3.call (g : G3 D L kd tys s f0 md ma f H locs fx) (hK : va_K D vwCl tys s) {mds : List (Nat × Nat)} {mas : List Nat} {f1 : Nat → va_E} {t : State} {H1 : Heap} {locs1 : List Loc} {fx' : List Fct} (ht : t.heap = H1) (hq : Q3 D L kd tys mds mas f H.size f1 t) (hS1 : va_S (pA L s.heap.size) s.heap H1 locs1) (hmd : mds.all (fun q => md.contains q) = true) (hma : mas.all (fun q => ma.contains q) = true) (hfx : fx.filter (fun q => !(mds.contains (q.1, q.2.1))) = fx') : G3 D L kd tys s f0 md ma f1 H1 locs1 fx' := by
  obtain ⟨h1, h2, h3, h4, h5, h6⟩ := g
  obtain ⟨e1, e2, e3, -, e5⟩ := hq
  refine ⟨by rw [← ht]; exact e3, e5.weaken (fun k q hk h => ?_), hS1, e1, fun q hq => ?_, fun b hb => ⟨fun j hbc hj => ?_, fun hb1 hb2 => ?_, fun hn8 hb8 h08 => ?_⟩⟩
  · rcases h with h | h
    · exact Or.inl h
    · exact Or.inr (Nat.le_trans h3.1 h)
  · subst hfx
    obtain ⟨hq1, hq2⟩ := List.mem_filter.mp hq
    obtain ⟨u1, u2, u3, u4⟩ := h5 q hq1
    refine ⟨u1, u2, u3, ?_⟩
    rw [(e2 q.2.2.1 u1).1 q.2.1 (by rw [u2]; exact u3) (by rw [u2]; intro h; simp [h] at hq2)]
    exact u4
  · rw [(e2 b hb).1 j hbc (fun h => hj (by have := List.all_eq_true.mp hmd _ h; simpa using this))]
    exact (h6 b hb).1 j hbc hj
  · rw [(e2 b hb).2.1 hb1 (fun h => hb2 (by have := List.all_eq_true.mp hma _ h; simpa using this))]
    exact (h6 b hb).2.1 hb1 hb2
  · exact (e2 b hb).2.2 (fun h => hn8 (by have := List.all_eq_true.mp hmd _ h; simpa using this)) hb8 ((h6 b hb).2.2 hn8 hb8 h08)
section CALL
variable {st0 : List Value} {mds : List (Nat × Nat)} {mas : List Nat} {av : Array Value} {fx' : List Fct}
theorem g_calli {post : Int32 → (Nat → va_E) → Prop} (hr : va_Run p l e R s m args below meth c H locs cells slots 0 0 (F0 m pc ls st0) rest (va_Qi post (Q3 D L kd tys mds mas f H.size) (pA L H.size) av) (pA L H.size)) (g : G3 D L kd tys s f0 md ma f H locs fx) (hK : va_K D vwCl tys s) (hmd : mds.all (fun q => md.contains q) = true) (hma : mas.all (fun q => ma.contains q) = true) (hfx : fx.filter (fun q => !(mds.contains (q.1, q.2.1))) = fx')
    (kk : ∀ (r : Int32) (f1 : Nat → va_E) (H1 : Heap) (locs1 : List Loc), post r f1 → Md L kd mds mas f f1 → G3 D L kd tys s f0 md ma f1 H1 locs1 fx' → W p l e R s m args below meth c H1 locs1 cells slots Q (F0 m (pc + 3) ls (.int r :: rest))) : W p l e R s m args below meth c H locs cells slots Q (F0 m pc ls st0) :=
  va_calli hr g.2.2.1 (fun q _ h => h.elim Or.inl (fun h => Or.inr (Nat.le_trans g.2.2.1.1 h))) (fun q h => h.elim Or.inl (fun h => Or.inr (Nat.le_trans g.2.2.1.1 h))) (fun r u t H1 locs1 ht hvm hp hB _ _ hS1 => kk r u H1 locs1 hp hB.2.1 (g.call hK ht hB hS1 hmd hma hfx))
theorem g_calll {post : Int64 → (Nat → va_E) → Prop} (hr : va_Run p l e R s m args below meth c H locs cells slots 0 0 (F0 m pc ls st0) rest (va_Ql post (Q3 D L kd tys mds mas f H.size) (pA L H.size) av) (pA L H.size)) (g : G3 D L kd tys s f0 md ma f H locs fx) (hK : va_K D vwCl tys s) (hmd : mds.all (fun q => md.contains q) = true) (hma : mas.all (fun q => ma.contains q) = true) (hfx : fx.filter (fun q => !(mds.contains (q.1, q.2.1))) = fx')
    (kk : ∀ (r : Int64) (f1 : Nat → va_E) (H1 : Heap) (locs1 : List Loc), post r f1 → Md L kd mds mas f f1 → G3 D L kd tys s f0 md ma f1 H1 locs1 fx' → W p l e R s m args below meth c H1 locs1 cells slots Q (F0 m (pc + 3) ls (.long r :: rest))) : W p l e R s m args below meth c H locs cells slots Q (F0 m pc ls st0) :=
  va_calll hr g.2.2.1 (fun q _ h => h.elim Or.inl (fun h => Or.inr (Nat.le_trans g.2.2.1.1 h))) (fun q h => h.elim Or.inl (fun h => Or.inr (Nat.le_trans g.2.2.1.1 h))) (fun r u t H1 locs1 ht hvm hp hB _ _ hS1 => kk r u H1 locs1 hp hB.2.1 (g.call hK ht hB hS1 hmd hma hfx))
theorem g_callv {post : (Nat → va_E) → Prop} (hr : va_Run p l e R s m args below meth c H locs cells slots 0 0 (F0 m pc ls st0) rest (va_Qv post (Q3 D L kd tys mds mas f H.size) (pA L H.size) av) (pA L H.size)) (g : G3 D L kd tys s f0 md ma f H locs fx) (hK : va_K D vwCl tys s) (hmd : mds.all (fun q => md.contains q) = true) (hma : mas.all (fun q => ma.contains q) = true) (hfx : fx.filter (fun q => !(mds.contains (q.1, q.2.1))) = fx')
    (kk : ∀ (f1 : Nat → va_E) (H1 : Heap) (locs1 : List Loc), post f1 → Md L kd mds mas f f1 → G3 D L kd tys s f0 md ma f1 H1 locs1 fx' → W p l e R s m args below meth c H1 locs1 cells slots Q (F0 m (pc + 3) ls rest)) : W p l e R s m args below meth c H locs cells slots Q (F0 m pc ls st0) :=
  va_callv hr g.2.2.1 (fun q _ h => h.elim Or.inl (fun h => Or.inr (Nat.le_trans g.2.2.1.1 h))) (fun q h => h.elim Or.inl (fun h => Or.inr (Nat.le_trans g.2.2.1.1 h))) (fun u t H1 locs1 ht hvm hp hB _ _ hS1 => kk u H1 locs1 hp hB.2.1 (g.call hK ht hB hS1 hmd hma hfx))
theorem g_callr {post : (Nat → va_E) → Prop} {X : (Nat → va_E) → Nat → Prop} (hr : va_Run p l e R s m args below meth c H locs cells slots 0 0 (F0 m pc ls st0) rest (va_Qr post (fun u b t => X u b ∧ Q3 D L kd tys mds mas f H.size u t) (pA L H.size) av) (pA L H.size)) (g : G3 D L kd tys s f0 md ma f H locs fx) (hK : va_K D vwCl tys s) (hmd : mds.all (fun q => md.contains q) = true) (hma : mas.all (fun q => ma.contains q) = true) (hfx : fx.filter (fun q => !(mds.contains (q.1, q.2.1))) = fx')
    (kk : ∀ (b : Nat) (f1 : Nat → va_E) (H1 : Heap) (locs1 : List Loc), X f1 b → Md L kd mds mas f f1 → G3 D L kd tys s f0 md ma f1 H1 locs1 fx' → W p l e R s m args below meth c H1 locs1 cells slots Q (F0 m (pc + 3) ls (.ref b :: rest))) : W p l e R s m args below meth c H locs cells slots Q (F0 m pc ls st0) :=
  va_callr hr g.2.2.1 (fun q _ h => h.elim Or.inl (fun h => Or.inr (Nat.le_trans g.2.2.1.1 h))) (fun q h => h.elim Or.inl (fun h => Or.inr (Nat.le_trans g.2.2.1.1 h))) (fun u b t H1 locs1 ht hvm hp hB _ _ hS1 => kk b u H1 locs1 hB.1 hB.2.2.1 (g.call hK ht hB.2 hS1 hmd hma hfx))
end CALL
theorem G3.more (g : G3 D L kd tys s f0 md ma f H locs fx) {fx' : List Fct} (h : Fs L kd f fx') : G3 D L kd tys s f0 md ma f H locs (fx' ++ fx) := by
  obtain ⟨h1, h2, h3, h4, h5, h6⟩ := g
  exact ⟨h1, h2, h3, h4, fun q hq => (List.mem_append.mp hq).elim (h q) (h5 q), h6⟩
theorem G3.fcts (g : G3 D L kd tys s f0 md ma f H locs fx) {fx' : List Fct} (is : List Nat) (h : is.filterMap (fun i => fx[i]?) = fx') : Fs L kd f fx' := (g.sub is h).2.2.2.2.1
theorem Fs.nil : Fs L kd f [] := fun q hq => by cases hq
theorem g_facti (g : G3 D L kd tys s f0 md ma f H locs fx) (ha : a ∈ L) {ci : Nat} (hk : kd a = ci) (hci : ci < 100) (k : Nat) {lo hi : Int} (ht : (FS ci)[k]? = some ((0, lo, hi) : rS)) : ∃ x : Int32, bd lo hi x ∧ G3 D L kd tys s f0 md ma f H locs ((ci, k, a, .int x) :: fx) := by
  obtain ⟨q0, fs, h1, h2, h3, h4⟩ := g_open g ha hk hci
  obtain ⟨x, hx, hb⟩ := h4 k _ ht
  exact ⟨x, hb, g.add ha hk hci (by simp only [fV, h2]; exact hx)⟩
theorem g_factr (g : G3 D L kd tys s f0 md ma f H locs fx) (ha : a ∈ L) {ci : Nat} (hk : kd a = ci) (hci : ci < 100) (k : Nat) {K : Nat} (ht : (FS ci)[k]? = some ((2, (K : Int), (K : Int)) : rS)) : ∃ b : Nat, b ∈ L ∧ kd b = K ∧ G3 D L kd tys s f0 md ma f H locs ((ci, k, a, .ref b) :: fx) := by
  obtain ⟨q0, fs, h1, h2, h3, h4⟩ := g_open g ha hk hci
  obtain ⟨b, hx, hb, e1, e2⟩ := h4 k _ ht
  exact ⟨b, hb, by simp only at e1 e2; omega, g.add ha hk hci (by simp only [fV, h2]; exact hx)⟩

theorem stk2 {mds : List (Nat × Nat)} {mas : List Nat} {f1 : Nat → va_E} {H1 : Heap} {locs1 : List Loc} {fx1 : List Fct} (hF : Fs L kd f fx) (hM : Md L kd mds mas f f1) (g1 : G3 D L kd tys s f0 md ma f1 H1 locs1 fx1) (hn : (8, 108) ∉ mds) (i : Nat) {z : Int32} {lo hi : Int} (hfi : fx[i]? = some (8, 8, a, .int z)) (hb : bd lo hi z) (hl : 1 ≤ lo) : ∃ z' : Int32, bd 1 7 z' ∧ Fs L kd f1 [(8, 8, a, .int z')] := by
  obtain ⟨ha, hk, -, hv⟩ := hF _ (List.mem_of_getElem? hfi)
  have ha : a ∈ L := ha
  have hk : kd a = 8 := hk
  obtain ⟨q0, fs, h2, h3, h4, h5⟩ := g_open g1 ha hk (by decide)
  obtain ⟨x, hx, hxb⟩ := h5 8 (0, 0, 7) rfl
  have hv1 : fV f1 a 8 = .int x := by simp only [fV, h3]; exact hx
  have h1 := (hM a ha).2.2 hn hk (by
    simp only at hv
    rw [hv]
    intro q
    cases q
    have h8 := hb.1
    have h9 : (0 : Int32).toInt = 0 := by decide
    omega)
  rw [hv1] at h1
  refine ⟨x, ⟨?_, hxb.2⟩, fun q hq => ?_⟩
  · have h6 := hxb.1
    simp only at h6
    rcases (show x.toInt = 0 ∨ 1 ≤ x.toInt by omega) with h7 | h7
    · exact absurd (congrArg Value.int (Int32.toInt_inj.mp (h7.trans (by decide)))) h1
    · exact h7
  · rcases List.mem_singleton.mp hq with rfl
    exact ⟨ha, hk, (show (8 : Nat) < 100 by decide), hv1⟩
theorem st_of {v : Int32} {lo hi : Int} (h : bd lo hi v) (hl : 1 ≤ lo) : Value.int v ≠ .int 0 := fun q => by
  cases q
  have h8 := h.1
  have h9 : (0 : Int32).toInt = 0 := by decide
  omega
section UNI
variable {i : Int32}
theorem atU {K : Nat} (h : 100 ≤ K ∧ K ≤ 103) : AT K = (0, (AT K).2.1, -2147483648, 2147483647) ∧ 3 ≤ (AT K).2.1 ∧ (AT K).2.1 ≤ 700 := by
  rcases (show K = 100 ∨ K = 101 ∨ K = 102 ∨ K = 103 by omega) with rfl | rfl | rfl | rfl <;> decide
theorem g_alenU (hx : p.tables.exec = Jvm.exec) (hb : c.code = cc) (hK : va_K D vwCl tys s) (g : G3 D L kd tys s f0 md ma f H locs fx) (ha : a ∈ L) (hk : 100 ≤ kd a ∧ kd a ≤ 103) (hdg : decode cc pc = .ok (.arraylength, 1)) (kk : ∀ v : Int32, v.toInt = ((AT (kd a)).2.1 : Int) → bd 3 700 v → W p l e R s m args below meth c H locs cells slots Q (F0 m (pc + 1) ls (.int v :: rest))) : W p l e R s m args below meth c H locs cells slots Q (F0 m pc ls (.ref a :: rest)) := by
  obtain ⟨h1, h2, h3⟩ := atU hk
  have e : (Int32.ofNat (AT (kd a)).2.1).toInt = ((AT (kd a)).2.1 : Int) := Int32.toInt_ofNat_of_lt (by omega)
  exact g_alen hx hb hK g ha rfl hk.1 rfl hdg (kk _ e ⟨by omega, by omega⟩)
theorem g_ialdU (hx : p.tables.exec = Jvm.exec) (hb : c.code = cc) (hK : va_K D vwCl tys s) (g : G3 D L kd tys s f0 md ma f H locs fx) (ha : a ∈ L) (hk : 100 ≤ kd a ∧ kd a ≤ 103) (hin : vp_in i (AT (kd a)).2.1) (hdg : decode cc pc = .ok (.iaload, 1)) (kk : ∀ x : Int32, W p l e R s m args below meth c H locs cells slots Q (F0 m (pc + 1) ls (.int x :: rest))) : W p l e R s m args below meth c H locs cells slots Q (F0 m pc ls (.int i :: .ref a :: rest)) :=
  g_iald hx hb hK g ha rfl hk.1 (atU hk).1 hin hdg (fun x _ _ => kk x)
theorem Md.mono {md' : List (Nat × Nat)} {ma' : List Nat} (h : Md L kd md ma f0 f) (h1 : ∀ q ∈ md, q ∈ md') (h2 : ∀ q ∈ ma, q ∈ ma') : Md L kd md' ma' f0 f := fun a ha => ⟨fun j hb hj => (h a ha).1 j hb (fun q => hj (h1 _ q)), fun hb hj => (h a ha).2.1 hb (fun q => hj (h2 _ q)), fun hn => (h a ha).2.2 (fun q => hn (h1 _ q))⟩
theorem g_iastU (hx : p.tables.exec = Jvm.exec) (hb : c.code = cc) (hK : va_K D vwCl tys s) (g : G3 D L kd tys s f0 md ma f H locs fx) (ha : a ∈ L) (hk : 100 ≤ kd a ∧ kd a ≤ 102) (hin : vp_in i (AT (kd a)).2.1) {x : Int32} (hma : [100, 101, 102].all (fun k => ma.contains k) = true) (hdg : decode cc pc = .ok (.iastore, 1)) (kk : ∀ (f1 : Nat → va_E) (H : Heap) (locs : List Loc), Md L kd [] [100, 101, 102] f f1 → G3 D L kd tys s f0 md ma f1 H locs fx → W p l e R s m args below meth c H locs cells slots Q (F0 m (pc + 1) ls rest)) : W p l e R s m args below meth c H locs cells slots Q (F0 m pc ls (.int x :: .int i :: .ref a :: rest)) := by
  have hm : kd a ∈ ma := by
    have h := List.all_eq_true.mp hma (kd a) (by
      rcases (show kd a = 100 ∨ kd a = 101 ∨ kd a = 102 by omega) with q | q | q <;> rw [q] <;> decide)
    simpa using h
  exact g_iast hx hb hK g ha rfl hk.1 (atU ⟨hk.1, by omega⟩).1 hin (bdT x) hm hdg (fun f1 H locs hM g => kk f1 H locs (hM.mono (by simp) (fun q hq => by rw [List.mem_singleton.mp hq]; rcases (show kd a = 100 ∨ kd a = 101 ∨ kd a = 102 by omega) with h | h | h <;> rw [h] <;> simp)) g)
end UNI
section CPY
variable {own : String} {index : Nat} {a0 K0 K1 n0 n1 : Nat}
theorem g_copyi {n : Int32} {lo0 hi0 lo1 hi1 : Int} (hx : p.tables.exec = Jvm.exec) (hb : c.code = cc) (hml : c.maxLocals = ls.size) (hown : s.vm.findClass own = some m.cls) (hlink : (Cond.methodLink own index arraycopyName).before args s = true) (hnat : (Cond.native arraycopyName).before args s = true) (hstat : (Cond.static arraycopyName).before args s = true) (hini : (Cond.initialized "java/lang/System").before args s = true) (hK : va_K D vwCl tys s) (g : G3 D L kd tys s f0 md ma f H locs fx) (ha0 : a0 ∈ L) (hk0 : kd a0 = K0) (ha : a ∈ L) (hk : kd a = K1) (hK0 : 100 ≤ K0) (hK1 : 100 ≤ K1) (hA0 : AT K0 = (0, n0, lo0, hi0)) (hA1 : AT K1 = (0, n1, lo1, hi1)) (hsub : lo1 ≤ lo0 ∧ hi0 ≤ hi1) (h3 : ¬ n < 0) (h4 : n.toNatClampNeg ≤ n0) (h5 : n.toNatClampNeg ≤ n1) (hma : K1 ∈ ma)
    (hframes : 1 ≤ R.frames) (hlocals : (rest.map fun v => v.category).sum + (nativeFrameWords "java/lang/System" "arraycopy" 5 + 11) ≤ R.locals) (hdg : decode cc pc = .ok (.invokestatic index, 3)) (kk : ∀ (f1 : Nat → va_E) (H : Heap) (locs : List Loc), Md L kd [] [K1] f f1 → G3 D L kd tys s f0 md ma f1 H locs fx → W p l e R s m args below meth c H locs cells slots Q (F0 m (pc + 3) ls rest)) : W p l e R s m args below meth c H locs cells slots Q (F0 m pc ls (.int n :: .int 0 :: .ref a :: .int 0 :: .ref a0 :: rest)) := by
  obtain ⟨q0, u1, u2⟩ := ok_arr g ha0 hk0
  rw [okE_i hK0 hA0] at u2
  obtain ⟨c0, t0, h0, e1, e2, e3⟩ := u2
  rw [e1] at u1
  obtain ⟨q1, v1, v2⟩ := ok_arr g ha hk
  have hq := v1
  rw [okE_i hK1 hA1] at v2
  obtain ⟨c1, t1, h1, d1, d2, d3⟩ := v2
  rw [d1] at v1
  have z0 : (0 : Int32).toNatClampNeg = 0 := by decide
  refine va_copyi hx hb hml hown hlink hnat hstat hini hK g.1 g.2.1 g.2.2.1 q0 q1 t0 t1 u1 v1 e2 d2 rfl (by decide) (by decide) h3 (by rw [z0]; omega) (by rw [z0]; omega) (fun i _ => rfl) hframes hlocals hdg (fun H1 locs1 hP1 hD1 hS1 => ?_)
  rw [pl_put g.2.1 ha hq] at hP1 hD1
  refine kk _ H1 locs1 (Md.ast hk hK1) (g.ast ha hk hK1 ?_ hma hP1 hD1 hS1)
  rw [okE_i hK1 hA1]
  refine ⟨c1, t1, _, rfl, d2, fun i hi => ?_⟩
  unfold va_cpy
  split
  · rename_i hh
    rw [z0]
    rw [z0] at hh
    exact bd_sub (e3 _ (by omega)) hsub
  · exact d3 i hi
theorem g_copyl {n : Int32} {lo0 hi0 lo1 hi1 : Int} (hx : p.tables.exec = Jvm.exec) (hb : c.code = cc) (hml : c.maxLocals = ls.size) (hown : s.vm.findClass own = some m.cls) (hlink : (Cond.methodLink own index arraycopyName).before args s = true) (hnat : (Cond.native arraycopyName).before args s = true) (hstat : (Cond.static arraycopyName).before args s = true) (hini : (Cond.initialized "java/lang/System").before args s = true) (hK : va_K D vwCl tys s) (g : G3 D L kd tys s f0 md ma f H locs fx) (ha0 : a0 ∈ L) (hk0 : kd a0 = K0) (ha : a ∈ L) (hk : kd a = K1) (hK0 : 100 ≤ K0) (hK1 : 100 ≤ K1) (hA0 : AT K0 = (3, n0, lo0, hi0)) (hA1 : AT K1 = (3, n1, lo1, hi1)) (h3 : ¬ n < 0) (h4 : n.toNatClampNeg ≤ n0) (h5 : n.toNatClampNeg ≤ n1) (hma : K1 ∈ ma)
    (hframes : 1 ≤ R.frames) (hlocals : (rest.map fun v => v.category).sum + (nativeFrameWords "java/lang/System" "arraycopy" 5 + 11) ≤ R.locals) (hdg : decode cc pc = .ok (.invokestatic index, 3)) (kk : ∀ (f1 : Nat → va_E) (H : Heap) (locs : List Loc), Md L kd [] [K1] f f1 → G3 D L kd tys s f0 md ma f1 H locs fx → W p l e R s m args below meth c H locs cells slots Q (F0 m (pc + 3) ls rest)) : W p l e R s m args below meth c H locs cells slots Q (F0 m pc ls (.int n :: .int 0 :: .ref a :: .int 0 :: .ref a0 :: rest)) := by
  obtain ⟨q0, u1, u2⟩ := ok_arr g ha0 hk0
  rw [okE_l hK0 hA0] at u2
  obtain ⟨c0, t0, h0, e1, e2⟩ := u2
  rw [e1] at u1
  obtain ⟨q1, v1, v2⟩ := ok_arr g ha hk
  have hq := v1
  rw [okE_l hK1 hA1] at v2
  obtain ⟨c1, t1, h1, d1, d2⟩ := v2
  rw [d1] at v1
  have z0 : (0 : Int32).toNatClampNeg = 0 := by decide
  refine va_copyl hx hb hml hown hlink hnat hstat hini hK g.1 g.2.1 g.2.2.1 q0 q1 t0 t1 u1 v1 e2 d2 rfl (by decide) (by decide) h3 (by rw [z0]; omega) (by rw [z0]; omega) (fun i _ => rfl) hframes hlocals hdg (fun H1 locs1 hP1 hD1 hS1 => ?_)
  rw [pl_put g.2.1 ha hq] at hP1 hD1
  refine kk _ H1 locs1 (Md.ast hk hK1) (g.ast ha hk hK1 ?_ hma hP1 hD1 hS1)
  rw [okE_l hK1 hA1]
  exact ⟨c1, t1, _, rfl, d2⟩
end CPY

def crel (x y : Int32) : Prop := ((x.toInt = 2 ∨ x.toInt = 14 ∨ x.toInt = 20) → bd 0 10 y) ∧ ((x.toInt = 3 ∨ x.toInt = 4 ∨ (9 ≤ x.toInt ∧ x.toInt ≤ 11) ∨ x.toInt = 21 ∨ x.toInt = 27) → bd 0 400 y) ∧ (x.toInt = 17 → bd 0 2147483647 y)
theorem cr10 {x y : Int32} {lo hi : Int} (h : crel x y) (hx : bd lo hi x) (hh : (lo = 2 ∧ hi = 2) ∨ (lo = 14 ∧ hi = 14) ∨ (lo = 20 ∧ hi = 20)) : bd 0 10 y := h.1 (by have h1 := hx.1; have h2 := hx.2; omega)
theorem cr400 {x y : Int32} {lo hi : Int} (h : crel x y) (hx : bd lo hi x) (hh : (3 ≤ lo ∧ hi ≤ 4) ∨ (9 ≤ lo ∧ hi ≤ 11) ∨ (lo = 21 ∧ hi = 21) ∨ (lo = 27 ∧ hi = 27)) : bd 0 400 y := h.2.1 (by have h1 := hx.1; have h2 := hx.2; omega)
theorem cr0 {x y : Int32} {lo hi : Int} (h : crel x y) (hx : bd lo hi x) (hh : lo = 17 ∧ hi = 17) : bd 0 2147483647 y := h.2.2 (by have h1 := hx.1; have h2 := hx.2; omega)
/-- the code of a text, up to its count, is such that every code has a fitting argument -/
def cOK (f : Nat → va_E) (t : Nat) : Prop := ∀ (o a : Nat) (n : Int32), fV f t 4 = .ref o → fV f t 5 = .ref a → fV f t 6 = .int n → ∀ i : Nat, (i : Int) < n.toInt → crel (aI f o i) (aI f a i)
theorem cOK.frame {t : Nat} {mds : List (Nat × Nat)} {mas : List Nat} {f1 : Nat → va_E} (hM : Md L kd mds mas f f1) (hW : WT L kd tys f) (ht : t ∈ L) (hk : kd t = 7) (h1 : ([(7, 4), (7, 5), (7, 6)] : List (Nat × Nat)).all (fun q => !(mds.contains q)) = true) (h2 : ([138, 139] : List Nat).all (fun q => !(mas.contains q)) = true) (h : cOK f t) : cOK f1 t := by
  intro o a n e1 e2 e3 i hi
  have nm : ∀ j : Nat, (7, j) ∈ ([(7, 4), (7, 5), (7, 6)] : List (Nat × Nat)) → fV f1 t j = fV f t j := fun j hj => (hM t ht).1 j (by omega) (by
    rw [hk]
    intro q
    have := List.all_eq_true.mp h1 _ hj
    simp [q] at this)
  rw [nm 4 (by simp)] at e1
  rw [nm 5 (by simp)] at e2
  rw [nm 6 (by simp)] at e3
  have hk7 := hW t ht
  rw [hk] at hk7
  unfold okE at hk7
  rw [if_pos (by decide)] at hk7
  obtain ⟨fs, hfe, -, hfs⟩ := hk7
  have hk4 : okV L kd (2, 138, 138) (fV f t 4) := by
    have := hfs 4 (2, 138, 138) rfl
    simpa only [fV, hfe] using this
  have hk5 : okV L kd (2, 139, 139) (fV f t 5) := by
    have := hfs 5 (2, 139, 139) rfl
    simpa only [fV, hfe] using this
  rw [e1] at hk4
  rw [e2] at hk5
  obtain ⟨o', ho1, ho2, ho3, ho4⟩ := hk4
  obtain ⟨a', ha1, ha2, ha3, ha4⟩ := hk5
  cases ho1
  cases ha1
  have ko : kd o = 138 := by simp only at ho3 ho4; omega
  have ka : kd a = 139 := by simp only at ha3 ha4; omega
  have eo : f1 o = f o := (hM o ho2).2.1 (by omega) (by rw [ko]; intro q; have := List.all_eq_true.mp h2 138 (by simp); simp [q] at this)
  have ea : f1 a = f a := (hM a ha2).2.1 (by omega) (by rw [ka]; intro q; have := List.all_eq_true.mp h2 139 (by simp); simp [q] at this)
  have := h o a n e1 e2 e3 i hi
  simpa only [aI, eo, ea] using this
theorem cOK.at {t o b : Nat} {n x y i : Int32} {lo hi : Int} (h : cOK f t) (g : G3 D L kd tys s f0 md ma f H locs fx) (i4 i5 i6 : Nat) (e4 : fx[i4]? = some (7, 4, t, .ref o)) (e5 : fx[i5]? = some (7, 5, t, .ref b)) (e6 : fx[i6]? = some (7, 6, t, .int n)) (hx : x = aI f o i.toNatClampNeg) (hy : y = aI f b i.toNatClampNeg) (hi : bd lo hi i) (hlo : 0 ≤ lo) (hlt : i.toInt < n.toInt) : crel x y := by
  rw [hx, hy]
  have h0 : (i.toNatClampNeg : Int) = i.toInt := by
    have := hi.1
    have h9 : i.toNatClampNeg = i.toInt.toNat := rfl
    omega
  exact h o b n (fx_at g e4).2.2.2 (fx_at g e5).2.2.2 (fx_at g e6).2.2.2 _ (by omega)

theorem arr_eq {mds : List (Nat × Nat)} {mas : List Nat} {f1 : Nat → va_E} {K : Nat} (hM : Md L kd mds mas f f1) (ha : a ∈ L) (hk : kd a = K) (hK : 100 ≤ K) (h : mas.contains K = false) : f1 a = f a := (hM a ha).2.1 (by omega) (by rw [hk]; intro q; simp [q] at h)
theorem el_same {f1 : Nat → va_E} {i : Nat} {x y : Int32} (h1 : x = aI f a i) (h2 : y = aI f1 a i) (e : f1 a = f a) : x = y := by rw [h1, h2]; unfold aI; rw [e]

section LAST
variable {K n : Nat} {lo hi : Int} {i : Int32}
theorem okE_7 {e : va_E} (hK : 100 ≤ K) (hA : AT K = (7, n, lo, hi)) : okE L kd tys K e = (okI tys .int n lo hi e ∧ lz e) := by unfold okE; rw [if_neg (by omega), hA]; rfl
theorem g_kald (hx : p.tables.exec = Jvm.exec) (hb : c.code = cc) (hK : va_K D vwCl tys s) (g : G3 D L kd tys s f0 md ma f H locs fx) (ha : a ∈ L) (hk : kd a = K) (hK1 : 100 ≤ K) (hA : AT K = (7, n, lo, hi)) (hin : vp_in i n) (hdg : decode cc pc = .ok (.iaload, 1)) (kk : ∀ x : Int32, bd lo hi x → x = aI f a i.toNatClampNeg → (bd 1201 1201 i → x = 0) → W p l e R s m args below meth c H locs cells slots Q (F0 m (pc + 1) ls (.int x :: rest))) : W p l e R s m args below meth c H locs cells slots Q (F0 m pc ls (.int i :: .ref a :: rest)) := by
  obtain ⟨q0, h1, h2⟩ := ok_arr g ha hk
  rw [okE_7 hK1 hA] at h2
  obtain ⟨⟨cA, t0, h, e1, e2, e3⟩, hz⟩ := h2
  have hz' := hz cA n h e1
  rw [e1] at h1
  refine va_iald hx hb hK g.1 q0 t0 h1 e2 hin hdg (kk _ (e3 _ (in_toNat hin)) (by unfold aI; rw [e1]) (fun hb => ?_))
  have h9 : i.toNatClampNeg = i.toInt.toNat := rfl
  have h8 : i.toNatClampNeg = 1201 := by have := hb.1; have := hb.2; omega
  rw [h8]
  exact hz'
theorem g_kast (hx : p.tables.exec = Jvm.exec) (hb : c.code = cc) (hK : va_K D vwCl tys s) (g : G3 D L kd tys s f0 md ma f H locs fx) (ha : a ∈ L) (hk : kd a = K) (hK1 : 100 ≤ K) (hA : AT K = (7, n, lo, hi)) (hin : vp_in i n) {x : Int32} (hxb : bd lo hi x) (hz0 : i.toInt < 1201 ∨ x = 0) (hma : K ∈ ma) (hdg : decode cc pc = .ok (.iastore, 1)) (kk : ∀ (f1 : Nat → va_E) (H : Heap) (locs : List Loc), Md L kd [] [K] f f1 → G3 D L kd tys s f0 md ma f1 H locs fx → W p l e R s m args below meth c H locs cells slots Q (F0 m (pc + 1) ls rest)) : W p l e R s m args below meth c H locs cells slots Q (F0 m pc ls (.int x :: .int i :: .ref a :: rest)) := by
  obtain ⟨q0, h1, h2⟩ := ok_arr g ha hk
  have hq := h1
  rw [okE_7 hK1 hA] at h2
  obtain ⟨⟨cA, t0, h, e1, e2, e3⟩, hz⟩ := h2
  have hz' := hz cA n h e1
  rw [e1] at h1
  refine va_iast hx hb hK g.1 g.2.1 g.2.2.1 q0 t0 h1 e2 hin hdg (fun H1 locs1 hP1 hD1 hS1 => ?_)
  rw [pl_put g.2.1 ha hq] at hP1 hD1
  refine kk _ H1 locs1 (Md.ast hk hK1) (g.ast ha hk hK1 ?_ hma hP1 hD1 hS1)
  rw [okE_7 hK1 hA]
  refine ⟨okI_up e2 e3 hxb, fun cA' n' h' he => ?_⟩
  cases he
  unfold upd
  split
  · rename_i heq
    rcases hz0 with h5 | h5
    · have h9 : i.toNatClampNeg = i.toInt.toNat := rfl
      omega
    · exact h5
  · exact hz'
end LAST
end POOL
theorem min_rg {a b c d lo hi : Int} {x y z : Int32} (e : z.toInt = min x.toInt y.toInt) (hx : bd a b x) (hy : bd c d y) (h : lo = min a c ∧ hi = min b d) : bd lo hi z := ⟨by have := hx.1; have := hy.1; omega, by have := hx.2; have := hy.2; omega⟩
theorem max_rg {a b c d lo hi : Int} {x y z : Int32} (e : z.toInt = max x.toInt y.toInt) (hx : bd a b x) (hy : bd c d y) (h : lo = max a c ∧ hi = max b d) : bd lo hi z := ⟨by have := hx.1; have := hy.1; omega, by have := hx.2; have := hy.2; omega⟩
theorem nz_bd {a b : Int} {y : Int32} (h : bd a b y) (hh : 0 < a ∨ b < 0) : ¬ y = 0 := fun e => by
  subst e
  have h1 := h.1
  have h2 := h.2
  have h3 : (0 : Int32).toInt = 0 := by decide
  omega
theorem and_rg {a b c d lo hi : Int} {x y z : Int32} (e : z = x &&& y) (hx : bd a b x) (hy : bd c d y) (h : 0 ≤ c ∧ lo ≤ 0 ∧ d ≤ hi) : bd lo hi z := by
  obtain ⟨h1, h2⟩ := hy
  have hy0 : 0 ≤ y.toBitVec.toInt := by show 0 ≤ y.toInt; omega
  have hym : y.toBitVec.msb = false := by
    rw [BitVec.msb_eq_toInt]
    simp only [decide_eq_false_iff_not]
    omega
  have hz : z.toBitVec = x.toBitVec &&& y.toBitVec := by rw [e, Int32.toBitVec_and]
  have hzm : z.toBitVec.msb = false := by rw [hz, BitVec.msb_and, hym, Bool.and_false]
  have e1 : z.toInt = (z.toBitVec.toNat : Int) := BitVec.toInt_eq_toNat_of_msb hzm
  have e2 : y.toInt = (y.toBitVec.toNat : Int) := BitVec.toInt_eq_toNat_of_msb hym
  have e3 : z.toBitVec.toNat ≤ y.toBitVec.toNat := by rw [hz, BitVec.toNat_and]; exact Nat.and_le_right
  exact ⟨by omega, by omega⟩
theorem div_ti {a b c d : Int} {x y : Int32} (hx : bd a b x) (hy : bd c d y) (h : 0 ≤ a ∧ 1 ≤ c) : (x / y).toInt = x.toInt / y.toInt := by
  have h1 := hx.1
  have h2 := hy.1
  have h3 : Int32.minValue.toInt = -2147483648 := by decide
  have hne : x ≠ Int32.minValue := fun q => by
    rw [q] at h1
    omega
  rw [Int32.toInt_div_of_ne_left _ _ hne]
  exact Int.tdiv_eq_ediv_of_nonneg (by omega)
theorem div_rg2 {a b c d lo hi : Int} {x y z : Int32} (e : z = x / y) (hx : bd a b x) (hy : bd c d y) (h : (0 ≤ a ∧ 1 ≤ c) ∧ lo ≤ 0 ∧ b ≤ hi) : bd lo hi z := by
  have h1 := div_ti hx hy h.1
  have h2 := hx.1
  have h3 := hx.2
  have h4 := hy.1
  have h5 : 0 ≤ x.toInt / y.toInt := Int.ediv_nonneg (by omega) (by omega)
  have h6 : x.toInt / y.toInt ≤ x.toInt := Int.ediv_le_self _ (by omega)
  rw [← e] at h1
  exact ⟨by omega, by omega⟩
theorem div_rg {a b c lo hi : Int} {x y z : Int32} (e : z = x / y) (hx : bd a b x) (hy : bd c c y) (h : (0 ≤ a ∧ 1 ≤ c) ∧ lo = a / c ∧ hi = b / c) : bd lo hi z := by
  have h1 := div_ti hx hy h.1
  have h4 : y.toInt = c := by have := hy.1; have := hy.2; omega
  rw [← e, h4] at h1
  obtain ⟨h5, rfl, rfl⟩ := h
  exact ⟨by rw [h1]; exact Int.ediv_le_ediv (by omega) hx.1, by rw [h1]; exact Int.ediv_le_ediv (by omega) hx.2⟩
theorem rem_ti {a b c d : Int} {x y : Int32} (hx : bd a b x) (hy : bd c d y) (h : 1 ≤ c) : (x - x / y * y).toInt = x.toInt.tmod y.toInt := by
  have h0 : x - x / y * y = x % y := by
    have h1 : y ≠ 0 := fun q => by
      have h2 := hy.1
      rw [q] at h2
      have h3 : (0 : Int32).toInt = 0 := by decide
      omega
    apply Int32.toInt_inj.mp
    rw [Int32.toInt_mod, Int32.toInt_sub, Int32.toInt_mul, Int32.toInt_div]
    have h2 := hy.1
    have h3 := hx.1
    have h4 := hx.2
    have h5 := tb_ x
    have h6 := tb_ y
    have hm : (x.toInt.tdiv y.toInt).bmod (2 ^ 32) = x.toInt.tdiv y.toInt := by
      apply Int.bmod_eq_of_le
      · have h7 : (x.toInt.tdiv y.toInt).natAbs ≤ x.toInt.natAbs := by rw [Int.natAbs_tdiv]; exact Nat.div_le_self _ _
        by_cases hy1 : y.toInt = 1
        · rw [hy1, Int.tdiv_one]; omega
        · have h8 : (x.toInt.tdiv y.toInt).natAbs * 2 ≤ x.toInt.natAbs := by
            rw [Int.natAbs_tdiv]
            have h9 : 2 ≤ y.toInt.natAbs := by omega
            calc x.toInt.natAbs / y.toInt.natAbs * 2 ≤ x.toInt.natAbs / y.toInt.natAbs * y.toInt.natAbs := Nat.mul_le_mul_left _ h9
              _ ≤ x.toInt.natAbs := Nat.div_mul_le_self _ _
          omega
      · have h7 : (x.toInt.tdiv y.toInt).natAbs ≤ x.toInt.natAbs := by rw [Int.natAbs_tdiv]; exact Nat.div_le_self _ _
        by_cases hy1 : y.toInt = 1
        · rw [hy1, Int.tdiv_one]; omega
        · have h8 : (x.toInt.tdiv y.toInt).natAbs * 2 ≤ x.toInt.natAbs := by
            rw [Int.natAbs_tdiv]
            have h9 : 2 ≤ y.toInt.natAbs := by omega
            calc x.toInt.natAbs / y.toInt.natAbs * 2 ≤ x.toInt.natAbs / y.toInt.natAbs * y.toInt.natAbs := Nat.mul_le_mul_left _ h9
              _ ≤ x.toInt.natAbs := Nat.div_mul_le_self _ _
          omega
    rw [hm, Int.sub_bmod_bmod]
    have ht := Int.mul_tdiv_add_tmod x.toInt y.toInt
    have h10 : x.toInt - x.toInt.tdiv y.toInt * y.toInt = x.toInt.tmod y.toInt := by rw [Int.mul_comm] at ht; omega
    rw [h10]
    have h11 : (x.toInt.tmod y.toInt).natAbs ≤ x.toInt.natAbs := by rw [Int.natAbs_tmod]; exact Nat.mod_le _ _
    have h12 : (x.toInt.tmod y.toInt).natAbs < y.toInt.natAbs := by rw [Int.natAbs_tmod]; exact Nat.mod_lt _ (by omega)
    exact Int.bmod_eq_of_le (by omega) (by omega)
  rw [h0, Int32.toInt_mod]
theorem rem_rg {a b c d lo hi : Int} {x y z : Int32} (e : z = x - x / y * y) (hx : bd a b x) (hy : bd c d y) (h : (0 ≤ a ∧ 1 ≤ c) ∧ lo ≤ 0 ∧ d - 1 ≤ hi) : bd lo hi z := by
  have h1 := rem_ti hx hy h.1.2
  rw [← e] at h1
  have h2 := hx.1
  have h3 := hy.1
  have h4 := hy.2
  rw [Int.tmod_eq_emod_of_nonneg (by omega)] at h1
  have h5 := Int.emod_nonneg x.toInt (b := y.toInt) (by omega)
  have h6 := Int.emod_lt_of_pos x.toInt (b := y.toInt) (by omega)
  exact ⟨by omega, by omega⟩
theorem rem_rg2 {a b c d lo hi : Int} {x y z : Int32} (e : z = x - x / y * y) (hx : bd a b x) (hy : bd c d y) (h : 1 ≤ c ∧ lo ≤ 1 - d ∧ d - 1 ≤ hi) : bd lo hi z := by
  have h1 := rem_ti hx hy h.1
  rw [← e] at h1
  have h3 := hy.1
  have h4 := hy.2
  have h12 : (x.toInt.tmod y.toInt).natAbs < y.toInt.natAbs := by rw [Int.natAbs_tmod]; exact Nat.mod_lt _ (by omega)
  exact ⟨by omega, by omega⟩
theorem shr_k (y : Int32) (k : Nat) (hk : k < 31) (hy : y.toInt = k) : ((y &&& 31).toBitVec.smod 32).toNat = k := by
  have h : y = Int32.ofNat k := Int32.toInt_inj.mp (by rw [hy, Int32.toInt_ofNat_of_lt (by omega)])
  subst h
  have : ∀ k : Fin 31, (((Int32.ofNat k.1) &&& 31).toBitVec.smod 32).toNat = k.1 := by decide
  exact this ⟨k, hk⟩
theorem shr_rg {a b c lo hi : Int} {x y z : Int32} (e : z = x >>> (y &&& 31)) (hx : bd a b x) (hy : bd c c y) (h : (0 ≤ c ∧ c < 31) ∧ lo = a / 2 ^ c.toNat ∧ hi = b / 2 ^ c.toNat) : bd lo hi z := by
  obtain ⟨h0, rfl, rfl⟩ := h
  have hy1 : y.toInt = (c.toNat : Int) := by have := hy.1; have := hy.2; omega
  have h1 := shr_k y c.toNat (by omega) hy1
  have h2 : z.toInt = x.toInt / 2 ^ c.toNat := by
    rw [e]
    show (x >>> (y &&& 31)).toBitVec.toInt = _
    rw [Int32.toBitVec_shiftRight]
    unfold BitVec.sshiftRight'
    rw [h1, BitVec.toInt_sshiftRight, Int.shiftRight_eq_div_pow]
    norm_cast
  have hp : (0 : Int) < 2 ^ c.toNat := Int.pow_pos (by decide)
  exact ⟨by rw [h2]; exact Int.ediv_le_ediv hp hx.1, by rw [h2]; exact Int.ediv_le_ediv hp hx.2⟩
theorem addK {y x t : Int32} {k m : Int} (h : y.toInt = x.toInt + (1 : Int32).toInt) (e : x.toInt = t.toInt + k) (hm : m = k + 1 := by decide) : y.toInt = t.toInt + m := by
  have h1 : (1 : Int32).toInt = 1 := by decide
  omega
theorem ltL {a b c d hi : Int} {x y : Int32} (h : x.toInt < y.toInt) (hx : bd a b x) (hy : bd c d y) (hh : d - 1 ≤ hi) : bd a hi x := ⟨hx.1, by have := hy.2; omega⟩
theorem ltR {a b c d lo : Int} {x y : Int32} (h : x.toInt < y.toInt) (hx : bd a b x) (hy : bd c d y) (hh : lo ≤ a + 1) : bd lo d y := ⟨by have := hx.1; omega, hy.2⟩
theorem leL {a b c d hi : Int} {x y : Int32} (h : x.toInt ≤ y.toInt) (hx : bd a b x) (hy : bd c d y) (hh : d ≤ hi) : bd a hi x := ⟨hx.1, by have := hy.2; omega⟩
theorem leR {a b c d lo : Int} {x y : Int32} (h : x.toInt ≤ y.toInt) (hx : bd a b x) (hy : bd c d y) (hh : lo ≤ a) : bd lo d y := ⟨by have := hx.1; omega, hy.2⟩
theorem eqX {a b c d lo hi : Int} {x y : Int32} (h : x.toInt = y.toInt) (hx : bd a b x) (hy : bd c d y) (hh : (lo ≤ a ∨ lo ≤ c) ∧ (b ≤ hi ∨ d ≤ hi)) : bd lo hi x := by
  obtain ⟨h1, h2⟩ := hx
  obtain ⟨h3, h4⟩ := hy
  obtain ⟨h5, h6⟩ := hh
  exact ⟨by omega, by omega⟩
theorem neX {a b c lo hi : Int} {x y : Int32} (h : x.toInt ≠ y.toInt) (hx : bd a b x) (hy : bd c c y) (hh : (lo ≤ a ∨ (c = a ∧ lo ≤ a + 1)) ∧ (b ≤ hi ∨ (c = b ∧ b - 1 ≤ hi))) : bd lo hi x := by
  obtain ⟨h1, h2⟩ := hx
  obtain ⟨h3, h4⟩ := hy
  obtain ⟨h5, h6⟩ := hh
  exact ⟨by omega, by omega⟩
theorem okV_i {L : List Nat} {kd : Nat → Nat} {lo hi : Int} {x : Int32} (h : bd lo hi x) : okV L kd (0, lo, hi) (.int x) := ⟨x, rfl, h⟩
theorem okV_l {L : List Nat} {kd : Nat → Nat} {lo hi : Int} {x : Int64} : okV L kd (1, lo, hi) (.long x) := ⟨x, rfl⟩
theorem okV_r {L : List Nat} {kd : Nat → Nat} {lo hi : Int} {a K : Nat} (h : a ∈ L) (hk : kd a = K) (hh : lo ≤ (K : Int) ∧ (K : Int) ≤ hi) : okV L kd (2, lo, hi) (.ref a) := ⟨a, rfl, h, by rw [hk]; exact hh.1, by rw [hk]; exact hh.2⟩
theorem okV_n {L : List Nat} {kd : Nat → Nat} {lo hi : Int} {a K : Nat} (h : a ∈ L) (hk : kd a = K) (hh : lo ≤ (K : Int) ∧ (K : Int) ≤ hi) : okV L kd (3, lo, hi) (.ref a) := Or.inr ⟨a, rfl, h, by rw [hk]; exact hh.1, by rw [hk]; exact hh.2⟩
theorem sub_rel0 {a b c d hi : Int} {x y z : Int32} (e : z.toInt = x.toInt - y.toInt) (h : y.toInt ≤ x.toInt) (hx : bd a b x) (hy : bd c d y) (hh : hi = b - c) : bd 0 hi z := ⟨by omega, by have := hx.2; have := hy.1; omega⟩
theorem sub_rel1 {a b c d hi : Int} {x y z : Int32} (e : z.toInt = x.toInt - y.toInt) (h : y.toInt < x.toInt) (hx : bd a b x) (hy : bd c d y) (hh : hi = b - c) : bd 1 hi z := ⟨by omega, by have := hx.2; have := hy.1; omega⟩
theorem mxl1 {x y : Int64} (e : y = if (1 : Int64) < x then x else 1) : ¬ y = 0 := by
  subst e
  split
  · rename_i h
    intro q
    rw [q] at h
    exact absurd h (by decide)
  · decide
theorem lt_bd {lo hi k : Int} {i : Int32} (h : bd lo hi i) (hh : hi < k) : i.toInt < k := Int.lt_of_le_of_lt h.2 hh
theorem in_v {x : Int32} {y : Int64} (e : y = x.toInt64) : y.toInt = x.toInt := by rw [e, Int32.toInt_toInt64]
theorem in_c {x : Int32} {y : Int64} {k : Int} (e : y = x.toInt64) (h : x.toInt = k) : y.toInt = x.toInt := by rw [e, Int32.toInt_toInt64]
theorem in_k {x : Int32} {y : Int64} {k : Int} (e : y.toInt = k) (h : x.toInt = k) : y.toInt = x.toInt := by rw [e, h]
theorem in_le {a b : Int64} {x y : Int32} (h : a ≤ b) (ha : a.toInt = x.toInt) (hb : b.toInt = y.toInt) : x.toInt ≤ y.toInt := by rw [← ha, ← hb]; exact Int64.le_iff_toInt_le.mp h
theorem ush8 {x y : Int64} (e : y = (x.toUInt64 >>> ((8 : Int32).toInt64.toUInt64 &&& Int64.toUInt64 63)).toInt64) (h : ¬ x = 0) : (y.toUInt64.toNat : Int) < (x.toUInt64.toNat : Int) := by
  have h8 : ((8 : Int32).toInt64.toUInt64 &&& Int64.toUInt64 63) = 8 := by decide
  rw [h8] at e
  have h1 : y.toUInt64 = x.toUInt64 >>> 8 := by rw [e]; rfl
  rw [h1, UInt64.toNat_shiftRight]
  have h2 : x.toUInt64.toNat ≠ 0 := by
    intro q
    apply h
    have h3 : x.toUInt64 = 0 := UInt64.toNat_inj.mp (by simpa using q)
    have h4 : x.toUInt64.toInt64 = (0 : UInt64).toInt64 := by rw [h3]
    simpa using h4
  have h5 : x.toUInt64.toNat >>> ((8 : UInt64).toNat % 64) = x.toUInt64.toNat / 256 := by
    rw [Nat.shiftRight_eq_div_pow]
    rfl
  have h6 : x.toUInt64.toNat / 256 < x.toUInt64.toNat := Nat.div_lt_self (by omega) (by decide)
  rw [h5]
  omega
theorem add_inv {a b c lo hi na nb : Int} {x y z : Int32} (e : z.toInt = x.toInt + y.toInt) (hz : bd lo hi z) (hx : bd a b x) (hy : bd c c y) (h : (na ≤ a ∨ na ≤ lo - c) ∧ (b ≤ nb ∨ hi - c ≤ nb)) : bd na nb x := by
  obtain ⟨h1, h2⟩ := hz
  obtain ⟨h3, h4⟩ := hx
  obtain ⟨h5, h6⟩ := hy
  obtain ⟨h7, h8⟩ := h
  exact ⟨by omega, by omega⟩
theorem add_inv2 {a b c d lo hi na nb : Int} {x y z : Int32} (e : z.toInt = x.toInt + y.toInt) (hz : bd lo hi z) (hx : bd a b x) (hy : bd c d y) (h : (na ≤ a ∨ na ≤ lo - d) ∧ (b ≤ nb ∨ hi - c ≤ nb)) : bd na nb x := by
  obtain ⟨h1, h2⟩ := hz
  obtain ⟨h3, h4⟩ := hx
  obtain ⟨h5, h6⟩ := hy
  obtain ⟨h7, h8⟩ := h
  exact ⟨by omega, by omega⟩
theorem sub_inv {a b c lo hi na nb : Int} {x y z : Int32} (e : z.toInt = x.toInt - y.toInt) (hz : bd lo hi z) (hx : bd a b x) (hy : bd c c y) (h : (na ≤ a ∨ na ≤ lo + c) ∧ (b ≤ nb ∨ hi + c ≤ nb)) : bd na nb x := by
  obtain ⟨h1, h2⟩ := hz
  obtain ⟨h3, h4⟩ := hx
  obtain ⟨h5, h6⟩ := hy
  obtain ⟨h7, h8⟩ := h
  exact ⟨by omega, by omega⟩
theorem t1_ {y p : Int32} (h : y.toInt = p.toInt - (1 : Int32).toInt) : y.toInt = p.toInt - 1 := h
theorem t2_ {f : Nat → va_E} {a : Nat} {x y z : Int32} {P : Int32 → Prop} {k : Int} (c : x = aI f a y.toNatClampNeg) (hz : z.toInt = k) (hy : y.toInt = k) (hb : P x) : P (aI f a z.toNatClampNeg) := by
  obtain rfl : z = y := Int32.toInt_inj.mp (hz.trans hy.symm)
  rw [← c]
  exact hb
theorem sp8_ {x : Int32} (h : bd 1 8 x) : x = 1 ∨ x = 2 ∨ x = 3 ∨ x = 4 ∨ x = 5 ∨ x = 6 ∨ x = 7 ∨ x = 8 := by
  have h1 := h.1
  have h2 := h.2
  have k : ∀ c : Int32, x.toInt = c.toInt → x = c := fun c q => Int32.toInt_inj.mp q
  rcases (show x.toInt = 1 ∨ x.toInt = 2 ∨ x.toInt = 3 ∨ x.toInt = 4 ∨ x.toInt = 5 ∨ x.toInt = 6 ∨ x.toInt = 7 ∨ x.toInt = 8 by omega) with q | q | q | q | q | q | q | q
  · exact Or.inl (k 1 (q.trans (by decide)))
  · exact Or.inr (Or.inl (k 2 (q.trans (by decide))))
  · exact Or.inr (Or.inr (Or.inl (k 3 (q.trans (by decide)))))
  · exact Or.inr (Or.inr (Or.inr (Or.inl (k 4 (q.trans (by decide))))))
  · exact Or.inr (Or.inr (Or.inr (Or.inr (Or.inl (k 5 (q.trans (by decide)))))))
  · exact Or.inr (Or.inr (Or.inr (Or.inr (Or.inr (Or.inl (k 6 (q.trans (by decide))))))))
  · exact Or.inr (Or.inr (Or.inr (Or.inr (Or.inr (Or.inr (Or.inl (k 7 (q.trans (by decide)))))))))
  · exact Or.inr (Or.inr (Or.inr (Or.inr (Or.inr (Or.inr (Or.inr (k 8 (q.trans (by decide)))))))))
theorem add_sub_c {x y z k : Int32} (e1 : y = x + k) (e2 : z = y - k) : x = z := by rw [e2, e1, Int32.add_sub_cancel]
theorem okV_u {L : List Nat} {kd : Nat → Nat} {lo hi : Int} {a p q : Nat} (h : a ∈ L) (hk : p ≤ kd a ∧ kd a ≤ q) (hh : lo ≤ (p : Int) ∧ (q : Int) ≤ hi) : okV L kd (2, lo, hi) (.ref a) := ⟨a, rfl, h, by show lo ≤ (kd a : Int); have := hk.1; omega, by show (kd a : Int) ≤ hi; have := hk.2; omega⟩
theorem fit_z {x : Int32} (h : bd 0 1 x) : fits .boolean (.int x) = true := by
  rcases (show x.toInt = 0 ∨ x.toInt = 1 by have h1 := h.1; have h2 := h.2; omega) with q | q
  · obtain rfl : x = 0 := Int32.toInt_inj.mp (q.trans (by decide))
    rfl
  · obtain rfl : x = 1 := Int32.toInt_inj.mp (q.trans (by decide))
    rfl
theorem fx_same {D : va_G} {L : List Nat} {kd : Nat → Nat} {tys : List (ClassId × FieldType)} {s : State} {f0 f : Nat → va_E} {md : List (Nat × Nat)} {ma : List Nat} {H : Heap} {locs : List Loc} {fx : List Fct} (g : G3 D L kd tys s f0 md ma f H locs fx) (i k : Nat) {ci j a : Nat} {x z : Int32} (h1 : fx[i]? = some (ci, j, a, .int x)) (h2 : fx[k]? = some (ci, j, a, .int z)) : z = x := by
  have e1 := (fx_at g h1).2.2.2
  have e2 := (fx_at g h2).2.2.2
  simp only at e1 e2
  rw [e1] at e2
  cases e2
  rfl
