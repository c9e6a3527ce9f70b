theorem Is.lt {n a : Nat} {k : Nat × Nat} (h : Is n a k) : a < n := h.2
/-- FogShare$Tape at a -/
def Wf9 (n : Nat) (R : Nat → Nat → Option Nat) (a : Nat) : Prop := Is n a (0, 9) ∧ R a 0 = some (a + 1) ∧ Is n (a + 1) (2, 2000)
theorem Wf9.o {n : Nat} {R : Nat → Nat → Option Nat} {a : Nat} (h : Wf9 n R a) : Is n a (0, 9) := h.1
theorem Wf9.r0 {n : Nat} {R : Nat → Nat → Option Nat} {a : Nat} (h : Wf9 n R a) : R a 0 = some (a + 1) := h.2.1
theorem Wf9.i0 {n : Nat} {R : Nat → Nat → Option Nat} {a : Nat} (h : Wf9 n R a) : Is n (a + 1) (2, 2000) := h.2.2
/-- FogShare$Tokens at a -/
def Wf10 (n : Nat) (R : Nat → Nat → Option Nat) (a : Nat) : Prop := Is n a (0, 10) ∧ R a 0 = some (a + 1) ∧ Is n (a + 1) (4, 23) ∧ R a 1 = some (a + 2) ∧ Is n (a + 2) (1, 401) ∧ R a 2 = some (a + 3) ∧ Is n (a + 3) (4, 401) ∧ R a 3 = some (a + 4) ∧ Is n (a + 4) (1, 401)
theorem Wf10.o {n : Nat} {R : Nat → Nat → Option Nat} {a : Nat} (h : Wf10 n R a) : Is n a (0, 10) := h.1
theorem Wf10.r0 {n : Nat} {R : Nat → Nat → Option Nat} {a : Nat} (h : Wf10 n R a) : R a 0 = some (a + 1) := h.2.1
theorem Wf10.i0 {n : Nat} {R : Nat → Nat → Option Nat} {a : Nat} (h : Wf10 n R a) : Is n (a + 1) (4, 23) := h.2.2.1
theorem Wf10.r1 {n : Nat} {R : Nat → Nat → Option Nat} {a : Nat} (h : Wf10 n R a) : R a 1 = some (a + 2) := h.2.2.2.1
theorem Wf10.i1 {n : Nat} {R : Nat → Nat → Option Nat} {a : Nat} (h : Wf10 n R a) : Is n (a + 2) (1, 401) := h.2.2.2.2.1
theorem Wf10.r2 {n : Nat} {R : Nat → Nat → Option Nat} {a : Nat} (h : Wf10 n R a) : R a 2 = some (a + 3) := h.2.2.2.2.2.1
theorem Wf10.i2 {n : Nat} {R : Nat → Nat → Option Nat} {a : Nat} (h : Wf10 n R a) : Is n (a + 3) (4, 401) := h.2.2.2.2.2.2.1
theorem Wf10.r3 {n : Nat} {R : Nat → Nat → Option Nat} {a : Nat} (h : Wf10 n R a) : R a 3 = some (a + 4) := h.2.2.2.2.2.2.2.1
theorem Wf10.i3 {n : Nat} {R : Nat → Nat → Option Nat} {a : Nat} (h : Wf10 n R a) : Is n (a + 4) (1, 401) := h.2.2.2.2.2.2.2.2
/-- FogShare$Grammar at a -/
def Wf2 (n : Nat) (R : Nat → Nat → Option Nat) (a : Nat) : Prop := Is n a (0, 2) ∧ R a 0 = some (a + 1) ∧ Is n (a + 1) (1, 4)
theorem Wf2.o {n : Nat} {R : Nat → Nat → Option Nat} {a : Nat} (h : Wf2 n R a) : Is n a (0, 2) := h.1
theorem Wf2.r0 {n : Nat} {R : Nat → Nat → Option Nat} {a : Nat} (h : Wf2 n R a) : R a 0 = some (a + 1) := h.2.1
theorem Wf2.i0 {n : Nat} {R : Nat → Nat → Option Nat} {a : Nat} (h : Wf2 n R a) : Is n (a + 1) (1, 4) := h.2.2
/-- FogShare$Drafter at a -/
def Wf0 (n : Nat) (R : Nat → Nat → Option Nat) (a : Nat) : Prop := Is n a (0, 0) ∧ R a 0 = some (a + 1) ∧ Is n (a + 1) (4, 4) ∧ R a 1 = some (a + 2) ∧ Is n (a + 2) (4, 6)
theorem Wf0.o {n : Nat} {R : Nat → Nat → Option Nat} {a : Nat} (h : Wf0 n R a) : Is n a (0, 0) := h.1
theorem Wf0.r0 {n : Nat} {R : Nat → Nat → Option Nat} {a : Nat} (h : Wf0 n R a) : R a 0 = some (a + 1) := h.2.1
theorem Wf0.i0 {n : Nat} {R : Nat → Nat → Option Nat} {a : Nat} (h : Wf0 n R a) : Is n (a + 1) (4, 4) := h.2.2.1
theorem Wf0.r1 {n : Nat} {R : Nat → Nat → Option Nat} {a : Nat} (h : Wf0 n R a) : R a 1 = some (a + 2) := h.2.2.2.1
theorem Wf0.i1 {n : Nat} {R : Nat → Nat → Option Nat} {a : Nat} (h : Wf0 n R a) : Is n (a + 2) (4, 6) := h.2.2.2.2
/-- FogShare$Sky at a -/
def Wf8 (n : Nat) (R : Nat → Nat → Option Nat) (a : Nat) : Prop := Is n a (0, 8) ∧ R a 0 = some (a + 1) ∧ Is n (a + 1) (1, 40)
theorem Wf8.o {n : Nat} {R : Nat → Nat → Option Nat} {a : Nat} (h : Wf8 n R a) : Is n a (0, 8) := h.1
theorem Wf8.r0 {n : Nat} {R : Nat → Nat → Option Nat} {a : Nat} (h : Wf8 n R a) : R a 0 = some (a + 1) := h.2.1
theorem Wf8.i0 {n : Nat} {R : Nat → Nat → Option Nat} {a : Nat} (h : Wf8 n R a) : Is n (a + 1) (1, 40) := h.2.2
/-- FogShare$Going at a -/
def Wf1 (n : Nat) (R : Nat → Nat → Option Nat) (a : Nat) : Prop := Is n a (0, 1) ∧ R a 1 = some (a + 1) ∧ Is n (a + 1) (1, 40) ∧ R a 2 = some (a + 2) ∧ Is n (a + 2) (1, 40) ∧ R a 3 = some (a + 3) ∧ Is n (a + 3) (1, 4) ∧ R a 4 = some (a + 4) ∧ Is n (a + 4) (1, 4) ∧ R a 5 = some (a + 5) ∧ Is n (a + 5) (1, 16)
theorem Wf1.o {n : Nat} {R : Nat → Nat → Option Nat} {a : Nat} (h : Wf1 n R a) : Is n a (0, 1) := h.1
theorem Wf1.r1 {n : Nat} {R : Nat → Nat → Option Nat} {a : Nat} (h : Wf1 n R a) : R a 1 = some (a + 1) := h.2.1
theorem Wf1.i1 {n : Nat} {R : Nat → Nat → Option Nat} {a : Nat} (h : Wf1 n R a) : Is n (a + 1) (1, 40) := h.2.2.1
theorem Wf1.r2 {n : Nat} {R : Nat → Nat → Option Nat} {a : Nat} (h : Wf1 n R a) : R a 2 = some (a + 2) := h.2.2.2.1
theorem Wf1.i2 {n : Nat} {R : Nat → Nat → Option Nat} {a : Nat} (h : Wf1 n R a) : Is n (a + 2) (1, 40) := h.2.2.2.2.1
theorem Wf1.r3 {n : Nat} {R : Nat → Nat → Option Nat} {a : Nat} (h : Wf1 n R a) : R a 3 = some (a + 3) := h.2.2.2.2.2.1
theorem Wf1.i3 {n : Nat} {R : Nat → Nat → Option Nat} {a : Nat} (h : Wf1 n R a) : Is n (a + 3) (1, 4) := h.2.2.2.2.2.2.1
theorem Wf1.r4 {n : Nat} {R : Nat → Nat → Option Nat} {a : Nat} (h : Wf1 n R a) : R a 4 = some (a + 4) := h.2.2.2.2.2.2.2.1
theorem Wf1.i4 {n : Nat} {R : Nat → Nat → Option Nat} {a : Nat} (h : Wf1 n R a) : Is n (a + 4) (1, 4) := h.2.2.2.2.2.2.2.2.1
theorem Wf1.r5 {n : Nat} {R : Nat → Nat → Option Nat} {a : Nat} (h : Wf1 n R a) : R a 5 = some (a + 5) := h.2.2.2.2.2.2.2.2.2.1
theorem Wf1.i5 {n : Nat} {R : Nat → Nat → Option Nat} {a : Nat} (h : Wf1 n R a) : Is n (a + 5) (1, 16) := h.2.2.2.2.2.2.2.2.2.2
/-- FogShare$Laws at a -/
def Wf5 (n : Nat) (R : Nat → Nat → Option Nat) (a : Nat) : Prop := Is n a (0, 5) ∧ R a 0 = some (a + 1) ∧ Is n (a + 1) (1, 420) ∧ R a 1 = some (a + 2) ∧ Is n (a + 2) (1, 4) ∧ R a 2 = some (a + 3) ∧ Is n (a + 3) (1, 9) ∧ R a 3 = some (a + 4) ∧ Is n (a + 4) (1, 24) ∧ R a 4 = some (a + 5) ∧ Is n (a + 5) (1, 24)
theorem Wf5.o {n : Nat} {R : Nat → Nat → Option Nat} {a : Nat} (h : Wf5 n R a) : Is n a (0, 5) := h.1
theorem Wf5.r0 {n : Nat} {R : Nat → Nat → Option Nat} {a : Nat} (h : Wf5 n R a) : R a 0 = some (a + 1) := h.2.1
theorem Wf5.i0 {n : Nat} {R : Nat → Nat → Option Nat} {a : Nat} (h : Wf5 n R a) : Is n (a + 1) (1, 420) := h.2.2.1
theorem Wf5.r1 {n : Nat} {R : Nat → Nat → Option Nat} {a : Nat} (h : Wf5 n R a) : R a 1 = some (a + 2) := h.2.2.2.1
theorem Wf5.i1 {n : Nat} {R : Nat → Nat → Option Nat} {a : Nat} (h : Wf5 n R a) : Is n (a + 2) (1, 4) := h.2.2.2.2.1
theorem Wf5.r2 {n : Nat} {R : Nat → Nat → Option Nat} {a : Nat} (h : Wf5 n R a) : R a 2 = some (a + 3) := h.2.2.2.2.2.1
theorem Wf5.i2 {n : Nat} {R : Nat → Nat → Option Nat} {a : Nat} (h : Wf5 n R a) : Is n (a + 3) (1, 9) := h.2.2.2.2.2.2.1
theorem Wf5.r3 {n : Nat} {R : Nat → Nat → Option Nat} {a : Nat} (h : Wf5 n R a) : R a 3 = some (a + 4) := h.2.2.2.2.2.2.2.1
theorem Wf5.i3 {n : Nat} {R : Nat → Nat → Option Nat} {a : Nat} (h : Wf5 n R a) : Is n (a + 4) (1, 24) := h.2.2.2.2.2.2.2.2.1
theorem Wf5.r4 {n : Nat} {R : Nat → Nat → Option Nat} {a : Nat} (h : Wf5 n R a) : R a 4 = some (a + 5) := h.2.2.2.2.2.2.2.2.2.1
theorem Wf5.i4 {n : Nat} {R : Nat → Nat → Option Nat} {a : Nat} (h : Wf5 n R a) : Is n (a + 5) (1, 24) := h.2.2.2.2.2.2.2.2.2.2
/-- FogShare$Plan at a -/
def Wf7 (n : Nat) (R : Nat → Nat → Option Nat) (a : Nat) : Prop := Is n a (0, 7) ∧ R a 8 = some (a + 1) ∧ Is n (a + 1) (1, 40) ∧ R a 9 = some (a + 2) ∧ Is n (a + 2) (1, 40) ∧ R a 10 = some (a + 3) ∧ Is n (a + 3) (1, 4) ∧ R a 11 = some (a + 4) ∧ Is n (a + 4) (1, 4) ∧ R a 12 = some (a + 5) ∧ Is n (a + 5) (1, 6) ∧ R a 13 = some (a + 6) ∧ Is n (a + 6) (1, 6) ∧ R a 14 = some (a + 7) ∧ Is n (a + 7) (1, 6) ∧ R a 15 = some (a + 8) ∧ Is n (a + 8) (1, 6) ∧ R a 16 = some (a + 9) ∧ Wf5 n R (a + 9)
theorem Wf7.o {n : Nat} {R : Nat → Nat → Option Nat} {a : Nat} (h : Wf7 n R a) : Is n a (0, 7) := h.1
theorem Wf7.r8 {n : Nat} {R : Nat → Nat → Option Nat} {a : Nat} (h : Wf7 n R a) : R a 8 = some (a + 1) := h.2.1
theorem Wf7.i8 {n : Nat} {R : Nat → Nat → Option Nat} {a : Nat} (h : Wf7 n R a) : Is n (a + 1) (1, 40) := h.2.2.1
theorem Wf7.r9 {n : Nat} {R : Nat → Nat → Option Nat} {a : Nat} (h : Wf7 n R a) : R a 9 = some (a + 2) := h.2.2.2.1
theorem Wf7.i9 {n : Nat} {R : Nat → Nat → Option Nat} {a : Nat} (h : Wf7 n R a) : Is n (a + 2) (1, 40) := h.2.2.2.2.1
theorem Wf7.r10 {n : Nat} {R : Nat → Nat → Option Nat} {a : Nat} (h : Wf7 n R a) : R a 10 = some (a + 3) := h.2.2.2.2.2.1
theorem Wf7.i10 {n : Nat} {R : Nat → Nat → Option Nat} {a : Nat} (h : Wf7 n R a) : Is n (a + 3) (1, 4) := h.2.2.2.2.2.2.1
theorem Wf7.r11 {n : Nat} {R : Nat → Nat → Option Nat} {a : Nat} (h : Wf7 n R a) : R a 11 = some (a + 4) := h.2.2.2.2.2.2.2.1
theorem Wf7.i11 {n : Nat} {R : Nat → Nat → Option Nat} {a : Nat} (h : Wf7 n R a) : Is n (a + 4) (1, 4) := h.2.2.2.2.2.2.2.2.1
theorem Wf7.r12 {n : Nat} {R : Nat → Nat → Option Nat} {a : Nat} (h : Wf7 n R a) : R a 12 = some (a + 5) := h.2.2.2.2.2.2.2.2.2.1
theorem Wf7.i12 {n : Nat} {R : Nat → Nat → Option Nat} {a : Nat} (h : Wf7 n R a) : Is n (a + 5) (1, 6) := h.2.2.2.2.2.2.2.2.2.2.1
theorem Wf7.r13 {n : Nat} {R : Nat → Nat → Option Nat} {a : Nat} (h : Wf7 n R a) : R a 13 = some (a + 6) := h.2.2.2.2.2.2.2.2.2.2.2.1
theorem Wf7.i13 {n : Nat} {R : Nat → Nat → Option Nat} {a : Nat} (h : Wf7 n R a) : Is n (a + 6) (1, 6) := h.2.2.2.2.2.2.2.2.2.2.2.2.1
theorem Wf7.r14 {n : Nat} {R : Nat → Nat → Option Nat} {a : Nat} (h : Wf7 n R a) : R a 14 = some (a + 7) := h.2.2.2.2.2.2.2.2.2.2.2.2.2.1
theorem Wf7.i14 {n : Nat} {R : Nat → Nat → Option Nat} {a : Nat} (h : Wf7 n R a) : Is n (a + 7) (1, 6) := h.2.2.2.2.2.2.2.2.2.2.2.2.2.2.1
theorem Wf7.r15 {n : Nat} {R : Nat → Nat → Option Nat} {a : Nat} (h : Wf7 n R a) : R a 15 = some (a + 8) := h.2.2.2.2.2.2.2.2.2.2.2.2.2.2.2.1
theorem Wf7.i15 {n : Nat} {R : Nat → Nat → Option Nat} {a : Nat} (h : Wf7 n R a) : Is n (a + 8) (1, 6) := h.2.2.2.2.2.2.2.2.2.2.2.2.2.2.2.2.1
theorem Wf7.r16 {n : Nat} {R : Nat → Nat → Option Nat} {a : Nat} (h : Wf7 n R a) : R a 16 = some (a + 9) := h.2.2.2.2.2.2.2.2.2.2.2.2.2.2.2.2.2.1
theorem Wf7.w16 {n : Nat} {R : Nat → Nat → Option Nat} {a : Nat} (h : Wf7 n R a) : Wf5 n R (a + 9) := h.2.2.2.2.2.2.2.2.2.2.2.2.2.2.2.2.2.2
/-- FogShare$Past at a -/
def Wf6 (n : Nat) (R : Nat → Nat → Option Nat) (a : Nat) : Prop := Is n a (0, 6) ∧ R a 0 = some (a + 1) ∧ Is n (a + 1) (5, 30) ∧ ∀ j, j < 30 → R (a + 1) j = some (a + 2 + 6 * j) ∧ Wf1 n R (a + 2 + 6 * j)
theorem Wf6.o {n : Nat} {R : Nat → Nat → Option Nat} {a : Nat} (h : Wf6 n R a) : Is n a (0, 6) := h.1
theorem Wf6.r0 {n : Nat} {R : Nat → Nat → Option Nat} {a : Nat} (h : Wf6 n R a) : R a 0 = some (a + 1) := h.2.1
theorem Wf6.i0 {n : Nat} {R : Nat → Nat → Option Nat} {a : Nat} (h : Wf6 n R a) : Is n (a + 1) (5, 30) := h.2.2.1
theorem Wf6.ring {n : Nat} {R : Nat → Nat → Option Nat} {a : Nat} (h : Wf6 n R a) : ∀ j, j < 30 → R (a + 1) j = some (a + 2 + 6 * j) ∧ Wf1 n R (a + 2 + 6 * j) := h.2.2.2
/-- FogShare$Hunt at a -/
def Wf4 (n : Nat) (R : Nat → Nat → Option Nat) (a : Nat) : Prop := Is n a (0, 4) ∧ R a 0 = some (a + 1) ∧ Is n (a + 1) (1, 20) ∧ R a 1 = some (a + 2) ∧ Is n (a + 2) (1, 20) ∧ R a 2 = some (a + 3) ∧ Is n (a + 3) (1, 20) ∧ R a 4 = some (a + 4) ∧ Wf1 n R (a + 4) ∧ R a 5 = some (a + 10) ∧ Is n (a + 10) (3, 41) ∧ R a 6 = some (a + 11) ∧ Is n (a + 11) (1, 1640) ∧ R a 7 = some (a + 12) ∧ Is n (a + 12) (1, 100)
theorem Wf4.o {n : Nat} {R : Nat → Nat → Option Nat} {a : Nat} (h : Wf4 n R a) : Is n a (0, 4) := h.1
theorem Wf4.r0 {n : Nat} {R : Nat → Nat → Option Nat} {a : Nat} (h : Wf4 n R a) : R a 0 = some (a + 1) := h.2.1
theorem Wf4.i0 {n : Nat} {R : Nat → Nat → Option Nat} {a : Nat} (h : Wf4 n R a) : Is n (a + 1) (1, 20) := h.2.2.1
theorem Wf4.r1 {n : Nat} {R : Nat → Nat → Option Nat} {a : Nat} (h : Wf4 n R a) : R a 1 = some (a + 2) := h.2.2.2.1
theorem Wf4.i1 {n : Nat} {R : Nat → Nat → Option Nat} {a : Nat} (h : Wf4 n R a) : Is n (a + 2) (1, 20) := h.2.2.2.2.1
theorem Wf4.r2 {n : Nat} {R : Nat → Nat → Option Nat} {a : Nat} (h : Wf4 n R a) : R a 2 = some (a + 3) := h.2.2.2.2.2.1
theorem Wf4.i2 {n : Nat} {R : Nat → Nat → Option Nat} {a : Nat} (h : Wf4 n R a) : Is n (a + 3) (1, 20) := h.2.2.2.2.2.2.1
theorem Wf4.r4 {n : Nat} {R : Nat → Nat → Option Nat} {a : Nat} (h : Wf4 n R a) : R a 4 = some (a + 4) := h.2.2.2.2.2.2.2.1
theorem Wf4.w4 {n : Nat} {R : Nat → Nat → Option Nat} {a : Nat} (h : Wf4 n R a) : Wf1 n R (a + 4) := h.2.2.2.2.2.2.2.2.1
theorem Wf4.r5 {n : Nat} {R : Nat → Nat → Option Nat} {a : Nat} (h : Wf4 n R a) : R a 5 = some (a + 10) := h.2.2.2.2.2.2.2.2.2.1
theorem Wf4.i5 {n : Nat} {R : Nat → Nat → Option Nat} {a : Nat} (h : Wf4 n R a) : Is n (a + 10) (3, 41) := h.2.2.2.2.2.2.2.2.2.2.1
theorem Wf4.r6 {n : Nat} {R : Nat → Nat → Option Nat} {a : Nat} (h : Wf4 n R a) : R a 6 = some (a + 11) := h.2.2.2.2.2.2.2.2.2.2.2.1
theorem Wf4.i6 {n : Nat} {R : Nat → Nat → Option Nat} {a : Nat} (h : Wf4 n R a) : Is n (a + 11) (1, 1640) := h.2.2.2.2.2.2.2.2.2.2.2.2.1
theorem Wf4.r7 {n : Nat} {R : Nat → Nat → Option Nat} {a : Nat} (h : Wf4 n R a) : R a 7 = some (a + 12) := h.2.2.2.2.2.2.2.2.2.2.2.2.2.1
theorem Wf4.i7 {n : Nat} {R : Nat → Nat → Option Nat} {a : Nat} (h : Wf4 n R a) : Is n (a + 12) (1, 100) := h.2.2.2.2.2.2.2.2.2.2.2.2.2.2
/-- FogShare$Guard at a -/
def Wf3 (n : Nat) (R : Nat → Nat → Option Nat) (a : Nat) : Prop := Is n a (0, 3) ∧ R a 0 = some (a + 1) ∧ Is n (a + 1) (1, 3)
theorem Wf3.o {n : Nat} {R : Nat → Nat → Option Nat} {a : Nat} (h : Wf3 n R a) : Is n a (0, 3) := h.1
theorem Wf3.r0 {n : Nat} {R : Nat → Nat → Option Nat} {a : Nat} (h : Wf3 n R a) : R a 0 = some (a + 1) := h.2.1
theorem Wf3.i0 {n : Nat} {R : Nat → Nat → Option Nat} {a : Nat} (h : Wf3 n R a) : Is n (a + 1) (1, 3) := h.2.2
def Wf11 (n : Nat) (R : Nat → Nat → Option Nat) : Prop := Is n 0 (0, 11) ∧ R 0 0 = some 1 ∧ Wf9 n R 1 ∧ R 0 1 = some 3 ∧ Wf10 n R 3 ∧ R 0 2 = some 8 ∧ Wf2 n R 8 ∧ R 0 3 = some 10 ∧ Wf0 n R 10 ∧ R 0 4 = some 13 ∧ Wf8 n R 13 ∧ R 0 5 = some 15 ∧ Wf1 n R 15 ∧ R 0 6 = some 21 ∧ Wf1 n R 21 ∧ R 0 7 = some 27 ∧ Wf6 n R 27 ∧ R 0 8 = some 209 ∧ Is n 209 (5, 3) ∧ R 0 9 = some 210 ∧ Is n 210 (3, 3) ∧ R 0 10 = some 211 ∧ Wf4 n R 211 ∧ R 0 11 = some 224 ∧ Wf3 n R 224 ∧ (∀ j, j < 3 → R 209 j = some (256 + 6 * j) ∧ Wf1 n R (256 + 6 * j)) ∧ Wf7 n R 226 ∧ Wf7 n R 241
theorem Wf11.o {n : Nat} {R : Nat → Nat → Option Nat} (h : Wf11 n R) : Is n 0 (0, 11) := h.1
theorem Wf11.r0 {n : Nat} {R : Nat → Nat → Option Nat} (h : Wf11 n R) : R 0 0 = some 1 := h.2.1
theorem Wf11.w0 {n : Nat} {R : Nat → Nat → Option Nat} (h : Wf11 n R) : Wf9 n R 1 := h.2.2.1
theorem Wf11.r1 {n : Nat} {R : Nat → Nat → Option Nat} (h : Wf11 n R) : R 0 1 = some 3 := h.2.2.2.1
theorem Wf11.w1 {n : Nat} {R : Nat → Nat → Option Nat} (h : Wf11 n R) : Wf10 n R 3 := h.2.2.2.2.1
theorem Wf11.r2 {n : Nat} {R : Nat → Nat → Option Nat} (h : Wf11 n R) : R 0 2 = some 8 := h.2.2.2.2.2.1
theorem Wf11.w2 {n : Nat} {R : Nat → Nat → Option Nat} (h : Wf11 n R) : Wf2 n R 8 := h.2.2.2.2.2.2.1
theorem Wf11.r3 {n : Nat} {R : Nat → Nat → Option Nat} (h : Wf11 n R) : R 0 3 = some 10 := h.2.2.2.2.2.2.2.1
theorem Wf11.w3 {n : Nat} {R : Nat → Nat → Option Nat} (h : Wf11 n R) : Wf0 n R 10 := h.2.2.2.2.2.2.2.2.1
theorem Wf11.r4 {n : Nat} {R : Nat → Nat → Option Nat} (h : Wf11 n R) : R 0 4 = some 13 := h.2.2.2.2.2.2.2.2.2.1
theorem Wf11.w4 {n : Nat} {R : Nat → Nat → Option Nat} (h : Wf11 n R) : Wf8 n R 13 := h.2.2.2.2.2.2.2.2.2.2.1
theorem Wf11.r5 {n : Nat} {R : Nat → Nat → Option Nat} (h : Wf11 n R) : R 0 5 = some 15 := h.2.2.2.2.2.2.2.2.2.2.2.1
theorem Wf11.w5 {n : Nat} {R : Nat → Nat → Option Nat} (h : Wf11 n R) : Wf1 n R 15 := h.2.2.2.2.2.2.2.2.2.2.2.2.1
theorem Wf11.r6 {n : Nat} {R : Nat → Nat → Option Nat} (h : Wf11 n R) : R 0 6 = some 21 := h.2.2.2.2.2.2.2.2.2.2.2.2.2.1
theorem Wf11.w6 {n : Nat} {R : Nat → Nat → Option Nat} (h : Wf11 n R) : Wf1 n R 21 := h.2.2.2.2.2.2.2.2.2.2.2.2.2.2.1
theorem Wf11.r7 {n : Nat} {R : Nat → Nat → Option Nat} (h : Wf11 n R) : R 0 7 = some 27 := h.2.2.2.2.2.2.2.2.2.2.2.2.2.2.2.1
theorem Wf11.w7 {n : Nat} {R : Nat → Nat → Option Nat} (h : Wf11 n R) : Wf6 n R 27 := h.2.2.2.2.2.2.2.2.2.2.2.2.2.2.2.2.1
theorem Wf11.r8 {n : Nat} {R : Nat → Nat → Option Nat} (h : Wf11 n R) : R 0 8 = some 209 := h.2.2.2.2.2.2.2.2.2.2.2.2.2.2.2.2.2.1
theorem Wf11.i8 {n : Nat} {R : Nat → Nat → Option Nat} (h : Wf11 n R) : Is n 209 (5, 3) := h.2.2.2.2.2.2.2.2.2.2.2.2.2.2.2.2.2.2.1
theorem Wf11.r9 {n : Nat} {R : Nat → Nat → Option Nat} (h : Wf11 n R) : R 0 9 = some 210 := h.2.2.2.2.2.2.2.2.2.2.2.2.2.2.2.2.2.2.2.1
theorem Wf11.i9 {n : Nat} {R : Nat → Nat → Option Nat} (h : Wf11 n R) : Is n 210 (3, 3) := h.2.2.2.2.2.2.2.2.2.2.2.2.2.2.2.2.2.2.2.2.1
theorem Wf11.r10 {n : Nat} {R : Nat → Nat → Option Nat} (h : Wf11 n R) : R 0 10 = some 211 := h.2.2.2.2.2.2.2.2.2.2.2.2.2.2.2.2.2.2.2.2.2.1
theorem Wf11.w10 {n : Nat} {R : Nat → Nat → Option Nat} (h : Wf11 n R) : Wf4 n R 211 := h.2.2.2.2.2.2.2.2.2.2.2.2.2.2.2.2.2.2.2.2.2.2.1
theorem Wf11.r11 {n : Nat} {R : Nat → Nat → Option Nat} (h : Wf11 n R) : R 0 11 = some 224 := h.2.2.2.2.2.2.2.2.2.2.2.2.2.2.2.2.2.2.2.2.2.2.2.1
theorem Wf11.w11 {n : Nat} {R : Nat → Nat → Option Nat} (h : Wf11 n R) : Wf3 n R 224 := h.2.2.2.2.2.2.2.2.2.2.2.2.2.2.2.2.2.2.2.2.2.2.2.2.1
theorem Wf11.slots {n : Nat} {R : Nat → Nat → Option Nat} (h : Wf11 n R) : (∀ j, j < 3 → R 209 j = some (256 + 6 * j) ∧ Wf1 n R (256 + 6 * j)) := h.2.2.2.2.2.2.2.2.2.2.2.2.2.2.2.2.2.2.2.2.2.2.2.2.2.1
theorem Wf11.p1 {n : Nat} {R : Nat → Nat → Option Nat} (h : Wf11 n R) : Wf7 n R 226 := h.2.2.2.2.2.2.2.2.2.2.2.2.2.2.2.2.2.2.2.2.2.2.2.2.2.2.1
theorem Wf11.p2 {n : Nat} {R : Nat → Nat → Option Nat} (h : Wf11 n R) : Wf7 n R 241 := h.2.2.2.2.2.2.2.2.2.2.2.2.2.2.2.2.2.2.2.2.2.2.2.2.2.2.2
def Wf12 (n : Nat) (R : Nat → Nat → Option Nat) : Prop := Is n 274 (0, 12) ∧ R 274 1 = some 275 ∧ Is n 275 (2, 2000) ∧ R 274 3 = some 276 ∧ Is n 276 (2, 2000) ∧ R 274 5 = some 277 ∧ Is n 277 (1, 403) ∧ R 274 6 = some 278 ∧ Is n 278 (1, 403) ∧ R 274 7 = some 279 ∧ Is n 279 (1, 403) ∧ R 274 8 = some 280 ∧ Is n 280 (4, 403) ∧ R 274 9 = some 281 ∧ Is n 281 (4, 23) ∧ R 274 21 = some 282 ∧ Is n 282 (4, 10) ∧ R 274 22 = some 283 ∧ Is n 283 (1, 10) ∧ R 274 23 = some 284 ∧ Is n 284 (1, 2) ∧ R 274 24 = some 285 ∧ Is n 285 (1, 2) ∧ R 274 25 = some 286 ∧ Is n 286 (1, 80) ∧ R 274 26 = some 287 ∧ Is n 287 (1, 80) ∧ R 274 27 = some 288 ∧ Is n 288 (1, 2) ∧ R 274 28 = some 289 ∧ Is n 289 (1, 8) ∧ R 274 29 = some 290 ∧ Is n 290 (1, 8) ∧ R 274 30 = some 291 ∧ Is n 291 (1, 2) ∧ R 274 31 = some 292 ∧ Is n 292 (1, 12) ∧ R 274 32 = some 293 ∧ Is n 293 (1, 12) ∧ R 274 33 = some 294 ∧ Is n 294 (1, 12) ∧ R 274 34 = some 295 ∧ Is n 295 (1, 12) ∧ R 274 35 = some 296 ∧ Is n 296 (1, 2) ∧ R 274 36 = some 297 ∧ Is n 297 (1, 24) ∧ R 274 37 = some 298 ∧ Is n 298 (1, 24) ∧ R 274 38 = some 299 ∧ Is n 299 (1, 24) ∧ R 274 39 = some 300 ∧ Is n 300 (1, 2) ∧ R 274 40 = some 301 ∧ Is n 301 (1, 2) ∧ R 274 41 = some 302 ∧ Is n 302 (1, 2) ∧ R 274 42 = some 303 ∧ Is n 303 (1, 8) ∧ R 274 43 = some 304 ∧ Is n 304 (1, 8) ∧ R 274 45 = some 305 ∧ Is n 305 (3, 260) ∧ R 274 46 = some 306 ∧ Is n 306 (1, 260) ∧ R 274 47 = some 307 ∧ Is n 307 (1, 260) ∧ R 274 48 = some 308 ∧ Is n 308 (1, 260) ∧ R 274 49 = some 309 ∧ Is n 309 (1, 260) ∧ R 274 51 = some 310 ∧ Is n 310 (1, 840) ∧ R 274 52 = some 311 ∧ Is n 311 (1, 840) ∧ R 274 53 = some 312 ∧ Is n 312 (1, 64) ∧ R 274 55 = some 313 ∧ Is n 313 (1, 9) ∧ R 274 56 = some 314 ∧ Is n 314 (1, 400) ∧ R 274 58 = some 315 ∧ Is n 315 (1, 105) ∧ R 274 59 = some 316 ∧ Is n 316 (1, 105) ∧ R 274 62 = some 317 ∧ Is n 317 (1, 40) ∧ R 274 64 = some 318 ∧ Is n 318 (1, 3150) ∧ R 274 65 = some 319 ∧ Is n 319 (3, 40) ∧ R 274 66 = some 320 ∧ Is n 320 (3, 40) ∧ R 274 67 = some 321 ∧ Is n 321 (1, 3) ∧ R 274 69 = some 322 ∧ Is n 322 (1, 20) ∧ R 274 70 = some 323 ∧ Is n 323 (1, 20) ∧ R 274 71 = some 324 ∧ Is n 324 (1, 20) ∧ R 274 72 = some 325 ∧ Is n 325 (1, 4000) ∧ R 274 73 = some 326 ∧ Is n 326 (3, 3) ∧ R 274 74 = some 327 ∧ Is n 327 (1, 315)
theorem Wf12.o {n : Nat} {R : Nat → Nat → Option Nat} (h : Wf12 n R) : Is n 274 (0, 12) := h.1
theorem Wf12.r1 {n : Nat} {R : Nat → Nat → Option Nat} (h : Wf12 n R) : R 274 1 = some 275 := h.2.1
theorem Wf12.i1 {n : Nat} {R : Nat → Nat → Option Nat} (h : Wf12 n R) : Is n 275 (2, 2000) := h.2.2.1
theorem Wf12.r3 {n : Nat} {R : Nat → Nat → Option Nat} (h : Wf12 n R) : R 274 3 = some 276 := h.2.2.2.1
theorem Wf12.i3 {n : Nat} {R : Nat → Nat → Option Nat} (h : Wf12 n R) : Is n 276 (2, 2000) := h.2.2.2.2.1
theorem Wf12.r5 {n : Nat} {R : Nat → Nat → Option Nat} (h : Wf12 n R) : R 274 5 = some 277 := h.2.2.2.2.2.1
theorem Wf12.i5 {n : Nat} {R : Nat → Nat → Option Nat} (h : Wf12 n R) : Is n 277 (1, 403) := h.2.2.2.2.2.2.1
theorem Wf12.r6 {n : Nat} {R : Nat → Nat → Option Nat} (h : Wf12 n R) : R 274 6 = some 278 := h.2.2.2.2.2.2.2.1
theorem Wf12.i6 {n : Nat} {R : Nat → Nat → Option Nat} (h : Wf12 n R) : Is n 278 (1, 403) := h.2.2.2.2.2.2.2.2.1
theorem Wf12.r7 {n : Nat} {R : Nat → Nat → Option Nat} (h : Wf12 n R) : R 274 7 = some 279 := h.2.2.2.2.2.2.2.2.2.1
theorem Wf12.i7 {n : Nat} {R : Nat → Nat → Option Nat} (h : Wf12 n R) : Is n 279 (1, 403) := h.2.2.2.2.2.2.2.2.2.2.1
theorem Wf12.r8 {n : Nat} {R : Nat → Nat → Option Nat} (h : Wf12 n R) : R 274 8 = some 280 := h.2.2.2.2.2.2.2.2.2.2.2.1
theorem Wf12.i8 {n : Nat} {R : Nat → Nat → Option Nat} (h : Wf12 n R) : Is n 280 (4, 403) := h.2.2.2.2.2.2.2.2.2.2.2.2.1
theorem Wf12.r9 {n : Nat} {R : Nat → Nat → Option Nat} (h : Wf12 n R) : R 274 9 = some 281 := h.2.2.2.2.2.2.2.2.2.2.2.2.2.1
theorem Wf12.i9 {n : Nat} {R : Nat → Nat → Option Nat} (h : Wf12 n R) : Is n 281 (4, 23) := h.2.2.2.2.2.2.2.2.2.2.2.2.2.2.1
theorem Wf12.r21 {n : Nat} {R : Nat → Nat → Option Nat} (h : Wf12 n R) : R 274 21 = some 282 := h.2.2.2.2.2.2.2.2.2.2.2.2.2.2.2.1
theorem Wf12.i21 {n : Nat} {R : Nat → Nat → Option Nat} (h : Wf12 n R) : Is n 282 (4, 10) := h.2.2.2.2.2.2.2.2.2.2.2.2.2.2.2.2.1
theorem Wf12.r22 {n : Nat} {R : Nat → Nat → Option Nat} (h : Wf12 n R) : R 274 22 = some 283 := h.2.2.2.2.2.2.2.2.2.2.2.2.2.2.2.2.2.1
theorem Wf12.i22 {n : Nat} {R : Nat → Nat → Option Nat} (h : Wf12 n R) : Is n 283 (1, 10) := h.2.2.2.2.2.2.2.2.2.2.2.2.2.2.2.2.2.2.1
theorem Wf12.r23 {n : Nat} {R : Nat → Nat → Option Nat} (h : Wf12 n R) : R 274 23 = some 284 := h.2.2.2.2.2.2.2.2.2.2.2.2.2.2.2.2.2.2.2.1
theorem Wf12.i23 {n : Nat} {R : Nat → Nat → Option Nat} (h : Wf12 n R) : Is n 284 (1, 2) := h.2.2.2.2.2.2.2.2.2.2.2.2.2.2.2.2.2.2.2.2.1
theorem Wf12.r24 {n : Nat} {R : Nat → Nat → Option Nat} (h : Wf12 n R) : R 274 24 = some 285 := h.2.2.2.2.2.2.2.2.2.2.2.2.2.2.2.2.2.2.2.2.2.1
theorem Wf12.i24 {n : Nat} {R : Nat → Nat → Option Nat} (h : Wf12 n R) : Is n 285 (1, 2) := h.2.2.2.2.2.2.2.2.2.2.2.2.2.2.2.2.2.2.2.2.2.2.1
theorem Wf12.r25 {n : Nat} {R : Nat → Nat → Option Nat} (h : Wf12 n R) : R 274 25 = some 286 := h.2.2.2.2.2.2.2.2.2.2.2.2.2.2.2.2.2.2.2.2.2.2.2.1
theorem Wf12.i25 {n : Nat} {R : Nat → Nat → Option Nat} (h : Wf12 n R) : Is n 286 (1, 80) := h.2.2.2.2.2.2.2.2.2.2.2.2.2.2.2.2.2.2.2.2.2.2.2.2.1
theorem Wf12.r26 {n : Nat} {R : Nat → Nat → Option Nat} (h : Wf12 n R) : R 274 26 = some 287 := h.2.2.2.2.2.2.2.2.2.2.2.2.2.2.2.2.2.2.2.2.2.2.2.2.2.1
theorem Wf12.i26 {n : Nat} {R : Nat → Nat → Option Nat} (h : Wf12 n R) : Is n 287 (1, 80) := h.2.2.2.2.2.2.2.2.2.2.2.2.2.2.2.2.2.2.2.2.2.2.2.2.2.2.1
theorem Wf12.r27 {n : Nat} {R : Nat → Nat → Option Nat} (h : Wf12 n R) : R 274 27 = some 288 := h.2.2.2.2.2.2.2.2.2.2.2.2.2.2.2.2.2.2.2.2.2.2.2.2.2.2.2.1
theorem Wf12.i27 {n : Nat} {R : Nat → Nat → Option Nat} (h : Wf12 n R) : Is n 288 (1, 2) := h.2.2.2.2.2.2.2.2.2.2.2.2.2.2.2.2.2.2.2.2.2.2.2.2.2.2.2.2.1
theorem Wf12.r28 {n : Nat} {R : Nat → Nat → Option Nat} (h : Wf12 n R) : R 274 28 = some 289 := h.2.2.2.2.2.2.2.2.2.2.2.2.2.2.2.2.2.2.2.2.2.2.2.2.2.2.2.2.2.1
theorem Wf12.i28 {n : Nat} {R : Nat → Nat → Option Nat} (h : Wf12 n R) : Is n 289 (1, 8) := h.2.2.2.2.2.2.2.2.2.2.2.2.2.2.2.2.2.2.2.2.2.2.2.2.2.2.2.2.2.2.1
theorem Wf12.r29 {n : Nat} {R : Nat → Nat → Option Nat} (h : Wf12 n R) : R 274 29 = some 290 := h.2.2.2.2.2.2.2.2.2.2.2.2.2.2.2.2.2.2.2.2.2.2.2.2.2.2.2.2.2.2.2.1
theorem Wf12.i29 {n : Nat} {R : Nat → Nat → Option Nat} (h : Wf12 n R) : Is n 290 (1, 8) := h.2.2.2.2.2.2.2.2.2.2.2.2.2.2.2.2.2.2.2.2.2.2.2.2.2.2.2.2.2.2.2.2.1
theorem Wf12.r30 {n : Nat} {R : Nat → Nat → Option Nat} (h : Wf12 n R) : R 274 30 = some 291 := h.2.2.2.2.2.2.2.2.2.2.2.2.2.2.2.2.2.2.2.2.2.2.2.2.2.2.2.2.2.2.2.2.2.1
theorem Wf12.i30 {n : Nat} {R : Nat → Nat → Option Nat} (h : Wf12 n R) : Is n 291 (1, 2) := h.2.2.2.2.2.2.2.2.2.2.2.2.2.2.2.2.2.2.2.2.2.2.2.2.2.2.2.2.2.2.2.2.2.2.1
theorem Wf12.r31 {n : Nat} {R : Nat → Nat → Option Nat} (h : Wf12 n R) : R 274 31 = some 292 := h.2.2.2.2.2.2.2.2.2.2.2.2.2.2.2.2.2.2.2.2.2.2.2.2.2.2.2.2.2.2.2.2.2.2.2.1
theorem Wf12.i31 {n : Nat} {R : Nat → Nat → Option Nat} (h : Wf12 n R) : Is n 292 (1, 12) := h.2.2.2.2.2.2.2.2.2.2.2.2.2.2.2.2.2.2.2.2.2.2.2.2.2.2.2.2.2.2.2.2.2.2.2.2.1
theorem Wf12.r32 {n : Nat} {R : Nat → Nat → Option Nat} (h : Wf12 n R) : R 274 32 = some 293 := h.2.2.2.2.2.2.2.2.2.2.2.2.2.2.2.2.2.2.2.2.2.2.2.2.2.2.2.2.2.2.2.2.2.2.2.2.2.1
theorem Wf12.i32 {n : Nat} {R : Nat → Nat → Option Nat} (h : Wf12 n R) : Is n 293 (1, 12) := h.2.2.2.2.2.2.2.2.2.2.2.2.2.2.2.2.2.2.2.2.2.2.2.2.2.2.2.2.2.2.2.2.2.2.2.2.2.2.1
theorem Wf12.r33 {n : Nat} {R : Nat → Nat → Option Nat} (h : Wf12 n R) : R 274 33 = some 294 := h.2.2.2.2.2.2.2.2.2.2.2.2.2.2.2.2.2.2.2.2.2.2.2.2.2.2.2.2.2.2.2.2.2.2.2.2.2.2.2.1
theorem Wf12.i33 {n : Nat} {R : Nat → Nat → Option Nat} (h : Wf12 n R) : Is n 294 (1, 12) := h.2.2.2.2.2.2.2.2.2.2.2.2.2.2.2.2.2.2.2.2.2.2.2.2.2.2.2.2.2.2.2.2.2.2.2.2.2.2.2.2.1
theorem Wf12.r34 {n : Nat} {R : Nat → Nat → Option Nat} (h : Wf12 n R) : R 274 34 = some 295 := h.2.2.2.2.2.2.2.2.2.2.2.2.2.2.2.2.2.2.2.2.2.2.2.2.2.2.2.2.2.2.2.2.2.2.2.2.2.2.2.2.2.1
theorem Wf12.i34 {n : Nat} {R : Nat → Nat → Option Nat} (h : Wf12 n R) : Is n 295 (1, 12) := h.2.2.2.2.2.2.2.2.2.2.2.2.2.2.2.2.2.2.2.2.2.2.2.2.2.2.2.2.2.2.2.2.2.2.2.2.2.2.2.2.2.2.1
theorem Wf12.r35 {n : Nat} {R : Nat → Nat → Option Nat} (h : Wf12 n R) : R 274 35 = some 296 := h.2.2.2.2.2.2.2.2.2.2.2.2.2.2.2.2.2.2.2.2.2.2.2.2.2.2.2.2.2.2.2.2.2.2.2.2.2.2.2.2.2.2.2.1
theorem Wf12.i35 {n : Nat} {R : Nat → Nat → Option Nat} (h : Wf12 n R) : Is n 296 (1, 2) := h.2.2.2.2.2.2.2.2.2.2.2.2.2.2.2.2.2.2.2.2.2.2.2.2.2.2.2.2.2.2.2.2.2.2.2.2.2.2.2.2.2.2.2.2.1
theorem Wf12.r36 {n : Nat} {R : Nat → Nat → Option Nat} (h : Wf12 n R) : R 274 36 = some 297 := h.2.2.2.2.2.2.2.2.2.2.2.2.2.2.2.2.2.2.2.2.2.2.2.2.2.2.2.2.2.2.2.2.2.2.2.2.2.2.2.2.2.2.2.2.2.1
theorem Wf12.i36 {n : Nat} {R : Nat → Nat → Option Nat} (h : Wf12 n R) : Is n 297 (1, 24) := h.2.2.2.2.2.2.2.2.2.2.2.2.2.2.2.2.2.2.2.2.2.2.2.2.2.2.2.2.2.2.2.2.2.2.2.2.2.2.2.2.2.2.2.2.2.2.1
theorem Wf12.r37 {n : Nat} {R : Nat → Nat → Option Nat} (h : Wf12 n R) : R 274 37 = some 298 := h.2.2.2.2.2.2.2.2.2.2.2.2.2.2.2.2.2.2.2.2.2.2.2.2.2.2.2.2.2.2.2.2.2.2.2.2.2.2.2.2.2.2.2.2.2.2.2.1
theorem Wf12.i37 {n : Nat} {R : Nat → Nat → Option Nat} (h : Wf12 n R) : Is n 298 (1, 24) := h.2.2.2.2.2.2.2.2.2.2.2.2.2.2.2.2.2.2.2.2.2.2.2.2.2.2.2.2.2.2.2.2.2.2.2.2.2.2.2.2.2.2.2.2.2.2.2.2.1
theorem Wf12.r38 {n : Nat} {R : Nat → Nat → Option Nat} (h : Wf12 n R) : R 274 38 = some 299 := h.2.2.2.2.2.2.2.2.2.2.2.2.2.2.2.2.2.2.2.2.2.2.2.2.2.2.2.2.2.2.2.2.2.2.2.2.2.2.2.2.2.2.2.2.2.2.2.2.2.1
theorem Wf12.i38 {n : Nat} {R : Nat → Nat → Option Nat} (h : Wf12 n R) : Is n 299 (1, 24) := h.2.2.2.2.2.2.2.2.2.2.2.2.2.2.2.2.2.2.2.2.2.2.2.2.2.2.2.2.2.2.2.2.2.2.2.2.2.2.2.2.2.2.2.2.2.2.2.2.2.2.1
theorem Wf12.r39 {n : Nat} {R : Nat → Nat → Option Nat} (h : Wf12 n R) : R 274 39 = some 300 := h.2.2.2.2.2.2.2.2.2.2.2.2.2.2.2.2.2.2.2.2.2.2.2.2.2.2.2.2.2.2.2.2.2.2.2.2.2.2.2.2.2.2.2.2.2.2.2.2.2.2.2.1
theorem Wf12.i39 {n : Nat} {R : Nat → Nat → Option Nat} (h : Wf12 n R) : Is n 300 (1, 2) := h.2.2.2.2.2.2.2.2.2.2.2.2.2.2.2.2.2.2.2.2.2.2.2.2.2.2.2.2.2.2.2.2.2.2.2.2.2.2.2.2.2.2.2.2.2.2.2.2.2.2.2.2.1
theorem Wf12.r40 {n : Nat} {R : Nat → Nat → Option Nat} (h : Wf12 n R) : R 274 40 = some 301 := h.2.2.2.2.2.2.2.2.2.2.2.2.2.2.2.2.2.2.2.2.2.2.2.2.2.2.2.2.2.2.2.2.2.2.2.2.2.2.2.2.2.2.2.2.2.2.2.2.2.2.2.2.2.1
theorem Wf12.i40 {n : Nat} {R : Nat → Nat → Option Nat} (h : Wf12 n R) : Is n 301 (1, 2) := h.2.2.2.2.2.2.2.2.2.2.2.2.2.2.2.2.2.2.2.2.2.2.2.2.2.2.2.2.2.2.2.2.2.2.2.2.2.2.2.2.2.2.2.2.2.2.2.2.2.2.2.2.2.2.1
theorem Wf12.r41 {n : Nat} {R : Nat → Nat → Option Nat} (h : Wf12 n R) : R 274 41 = some 302 := h.2.2.2.2.2.2.2.2.2.2.2.2.2.2.2.2.2.2.2.2.2.2.2.2.2.2.2.2.2.2.2.2.2.2.2.2.2.2.2.2.2.2.2.2.2.2.2.2.2.2.2.2.2.2.2.1
theorem Wf12.i41 {n : Nat} {R : Nat → Nat → Option Nat} (h : Wf12 n R) : Is n 302 (1, 2) := h.2.2.2.2.2.2.2.2.2.2.2.2.2.2.2.2.2.2.2.2.2.2.2.2.2.2.2.2.2.2.2.2.2.2.2.2.2.2.2.2.2.2.2.2.2.2.2.2.2.2.2.2.2.2.2.2.1
theorem Wf12.r42 {n : Nat} {R : Nat → Nat → Option Nat} (h : Wf12 n R) : R 274 42 = some 303 := h.2.2.2.2.2.2.2.2.2.2.2.2.2.2.2.2.2.2.2.2.2.2.2.2.2.2.2.2.2.2.2.2.2.2.2.2.2.2.2.2.2.2.2.2.2.2.2.2.2.2.2.2.2.2.2.2.2.1
theorem Wf12.i42 {n : Nat} {R : Nat → Nat → Option Nat} (h : Wf12 n R) : Is n 303 (1, 8) := h.2.2.2.2.2.2.2.2.2.2.2.2.2.2.2.2.2.2.2.2.2.2.2.2.2.2.2.2.2.2.2.2.2.2.2.2.2.2.2.2.2.2.2.2.2.2.2.2.2.2.2.2.2.2.2.2.2.2.1
theorem Wf12.r43 {n : Nat} {R : Nat → Nat → Option Nat} (h : Wf12 n R) : R 274 43 = some 304 := h.2.2.2.2.2.2.2.2.2.2.2.2.2.2.2.2.2.2.2.2.2.2.2.2.2.2.2.2.2.2.2.2.2.2.2.2.2.2.2.2.2.2.2.2.2.2.2.2.2.2.2.2.2.2.2.2.2.2.2.1
theorem Wf12.i43 {n : Nat} {R : Nat → Nat → Option Nat} (h : Wf12 n R) : Is n 304 (1, 8) := h.2.2.2.2.2.2.2.2.2.2.2.2.2.2.2.2.2.2.2.2.2.2.2.2.2.2.2.2.2.2.2.2.2.2.2.2.2.2.2.2.2.2.2.2.2.2.2.2.2.2.2.2.2.2.2.2.2.2.2.2.1
theorem Wf12.r45 {n : Nat} {R : Nat → Nat → Option Nat} (h : Wf12 n R) : R 274 45 = some 305 := h.2.2.2.2.2.2.2.2.2.2.2.2.2.2.2.2.2.2.2.2.2.2.2.2.2.2.2.2.2.2.2.2.2.2.2.2.2.2.2.2.2.2.2.2.2.2.2.2.2.2.2.2.2.2.2.2.2.2.2.2.2.1
theorem Wf12.i45 {n : Nat} {R : Nat → Nat → Option Nat} (h : Wf12 n R) : Is n 305 (3, 260) := h.2.2.2.2.2.2.2.2.2.2.2.2.2.2.2.2.2.2.2.2.2.2.2.2.2.2.2.2.2.2.2.2.2.2.2.2.2.2.2.2.2.2.2.2.2.2.2.2.2.2.2.2.2.2.2.2.2.2.2.2.2.2.1
theorem Wf12.r46 {n : Nat} {R : Nat → Nat → Option Nat} (h : Wf12 n R) : R 274 46 = some 306 := h.2.2.2.2.2.2.2.2.2.2.2.2.2.2.2.2.2.2.2.2.2.2.2.2.2.2.2.2.2.2.2.2.2.2.2.2.2.2.2.2.2.2.2.2.2.2.2.2.2.2.2.2.2.2.2.2.2.2.2.2.2.2.2.1
theorem Wf12.i46 {n : Nat} {R : Nat → Nat → Option Nat} (h : Wf12 n R) : Is n 306 (1, 260) := h.2.2.2.2.2.2.2.2.2.2.2.2.2.2.2.2.2.2.2.2.2.2.2.2.2.2.2.2.2.2.2.2.2.2.2.2.2.2.2.2.2.2.2.2.2.2.2.2.2.2.2.2.2.2.2.2.2.2.2.2.2.2.2.2.1
theorem Wf12.r47 {n : Nat} {R : Nat → Nat → Option Nat} (h : Wf12 n R) : R 274 47 = some 307 := h.2.2.2.2.2.2.2.2.2.2.2.2.2.2.2.2.2.2.2.2.2.2.2.2.2.2.2.2.2.2.2.2.2.2.2.2.2.2.2.2.2.2.2.2.2.2.2.2.2.2.2.2.2.2.2.2.2.2.2.2.2.2.2.2.2.1
theorem Wf12.i47 {n : Nat} {R : Nat → Nat → Option Nat} (h : Wf12 n R) : Is n 307 (1, 260) := h.2.2.2.2.2.2.2.2.2.2.2.2.2.2.2.2.2.2.2.2.2.2.2.2.2.2.2.2.2.2.2.2.2.2.2.2.2.2.2.2.2.2.2.2.2.2.2.2.2.2.2.2.2.2.2.2.2.2.2.2.2.2.2.2.2.2.1
theorem Wf12.r48 {n : Nat} {R : Nat → Nat → Option Nat} (h : Wf12 n R) : R 274 48 = some 308 := h.2.2.2.2.2.2.2.2.2.2.2.2.2.2.2.2.2.2.2.2.2.2.2.2.2.2.2.2.2.2.2.2.2.2.2.2.2.2.2.2.2.2.2.2.2.2.2.2.2.2.2.2.2.2.2.2.2.2.2.2.2.2.2.2.2.2.2.1
theorem Wf12.i48 {n : Nat} {R : Nat → Nat → Option Nat} (h : Wf12 n R) : Is n 308 (1, 260) := h.2.2.2.2.2.2.2.2.2.2.2.2.2.2.2.2.2.2.2.2.2.2.2.2.2.2.2.2.2.2.2.2.2.2.2.2.2.2.2.2.2.2.2.2.2.2.2.2.2.2.2.2.2.2.2.2.2.2.2.2.2.2.2.2.2.2.2.2.1
theorem Wf12.r49 {n : Nat} {R : Nat → Nat → Option Nat} (h : Wf12 n R) : R 274 49 = some 309 := h.2.2.2.2.2.2.2.2.2.2.2.2.2.2.2.2.2.2.2.2.2.2.2.2.2.2.2.2.2.2.2.2.2.2.2.2.2.2.2.2.2.2.2.2.2.2.2.2.2.2.2.2.2.2.2.2.2.2.2.2.2.2.2.2.2.2.2.2.2.1
theorem Wf12.i49 {n : Nat} {R : Nat → Nat → Option Nat} (h : Wf12 n R) : Is n 309 (1, 260) := h.2.2.2.2.2.2.2.2.2.2.2.2.2.2.2.2.2.2.2.2.2.2.2.2.2.2.2.2.2.2.2.2.2.2.2.2.2.2.2.2.2.2.2.2.2.2.2.2.2.2.2.2.2.2.2.2.2.2.2.2.2.2.2.2.2.2.2.2.2.2.1
theorem Wf12.r51 {n : Nat} {R : Nat → Nat → Option Nat} (h : Wf12 n R) : R 274 51 = some 310 := h.2.2.2.2.2.2.2.2.2.2.2.2.2.2.2.2.2.2.2.2.2.2.2.2.2.2.2.2.2.2.2.2.2.2.2.2.2.2.2.2.2.2.2.2.2.2.2.2.2.2.2.2.2.2.2.2.2.2.2.2.2.2.2.2.2.2.2.2.2.2.2.1
theorem Wf12.i51 {n : Nat} {R : Nat → Nat → Option Nat} (h : Wf12 n R) : Is n 310 (1, 840) := h.2.2.2.2.2.2.2.2.2.2.2.2.2.2.2.2.2.2.2.2.2.2.2.2.2.2.2.2.2.2.2.2.2.2.2.2.2.2.2.2.2.2.2.2.2.2.2.2.2.2.2.2.2.2.2.2.2.2.2.2.2.2.2.2.2.2.2.2.2.2.2.2.1
theorem Wf12.r52 {n : Nat} {R : Nat → Nat → Option Nat} (h : Wf12 n R) : R 274 52 = some 311 := h.2.2.2.2.2.2.2.2.2.2.2.2.2.2.2.2.2.2.2.2.2.2.2.2.2.2.2.2.2.2.2.2.2.2.2.2.2.2.2.2.2.2.2.2.2.2.2.2.2.2.2.2.2.2.2.2.2.2.2.2.2.2.2.2.2.2.2.2.2.2.2.2.2.1
theorem Wf12.i52 {n : Nat} {R : Nat → Nat → Option Nat} (h : Wf12 n R) : Is n 311 (1, 840) := h.2.2.2.2.2.2.2.2.2.2.2.2.2.2.2.2.2.2.2.2.2.2.2.2.2.2.2.2.2.2.2.2.2.2.2.2.2.2.2.2.2.2.2.2.2.2.2.2.2.2.2.2.2.2.2.2.2.2.2.2.2.2.2.2.2.2.2.2.2.2.2.2.2.2.1
theorem Wf12.r53 {n : Nat} {R : Nat → Nat → Option Nat} (h : Wf12 n R) : R 274 53 = some 312 := h.2.2.2.2.2.2.2.2.2.2.2.2.2.2.2.2.2.2.2.2.2.2.2.2.2.2.2.2.2.2.2.2.2.2.2.2.2.2.2.2.2.2.2.2.2.2.2.2.2.2.2.2.2.2.2.2.2.2.2.2.2.2.2.2.2.2.2.2.2.2.2.2.2.2.2.1
theorem Wf12.i53 {n : Nat} {R : Nat → Nat → Option Nat} (h : Wf12 n R) : Is n 312 (1, 64) := h.2.2.2.2.2.2.2.2.2.2.2.2.2.2.2.2.2.2.2.2.2.2.2.2.2.2.2.2.2.2.2.2.2.2.2.2.2.2.2.2.2.2.2.2.2.2.2.2.2.2.2.2.2.2.2.2.2.2.2.2.2.2.2.2.2.2.2.2.2.2.2.2.2.2.2.2.1
theorem Wf12.r55 {n : Nat} {R : Nat → Nat → Option Nat} (h : Wf12 n R) : R 274 55 = some 313 := h.2.2.2.2.2.2.2.2.2.2.2.2.2.2.2.2.2.2.2.2.2.2.2.2.2.2.2.2.2.2.2.2.2.2.2.2.2.2.2.2.2.2.2.2.2.2.2.2.2.2.2.2.2.2.2.2.2.2.2.2.2.2.2.2.2.2.2.2.2.2.2.2.2.2.2.2.2.1
theorem Wf12.i55 {n : Nat} {R : Nat → Nat → Option Nat} (h : Wf12 n R) : Is n 313 (1, 9) := h.2.2.2.2.2.2.2.2.2.2.2.2.2.2.2.2.2.2.2.2.2.2.2.2.2.2.2.2.2.2.2.2.2.2.2.2.2.2.2.2.2.2.2.2.2.2.2.2.2.2.2.2.2.2.2.2.2.2.2.2.2.2.2.2.2.2.2.2.2.2.2.2.2.2.2.2.2.2.1
theorem Wf12.r56 {n : Nat} {R : Nat → Nat → Option Nat} (h : Wf12 n R) : R 274 56 = some 314 := h.2.2.2.2.2.2.2.2.2.2.2.2.2.2.2.2.2.2.2.2.2.2.2.2.2.2.2.2.2.2.2.2.2.2.2.2.2.2.2.2.2.2.2.2.2.2.2.2.2.2.2.2.2.2.2.2.2.2.2.2.2.2.2.2.2.2.2.2.2.2.2.2.2.2.2.2.2.2.2.1
theorem Wf12.i56 {n : Nat} {R : Nat → Nat → Option Nat} (h : Wf12 n R) : Is n 314 (1, 400) := h.2.2.2.2.2.2.2.2.2.2.2.2.2.2.2.2.2.2.2.2.2.2.2.2.2.2.2.2.2.2.2.2.2.2.2.2.2.2.2.2.2.2.2.2.2.2.2.2.2.2.2.2.2.2.2.2.2.2.2.2.2.2.2.2.2.2.2.2.2.2.2.2.2.2.2.2.2.2.2.2.1
theorem Wf12.r58 {n : Nat} {R : Nat → Nat → Option Nat} (h : Wf12 n R) : R 274 58 = some 315 := h.2.2.2.2.2.2.2.2.2.2.2.2.2.2.2.2.2.2.2.2.2.2.2.2.2.2.2.2.2.2.2.2.2.2.2.2.2.2.2.2.2.2.2.2.2.2.2.2.2.2.2.2.2.2.2.2.2.2.2.2.2.2.2.2.2.2.2.2.2.2.2.2.2.2.2.2.2.2.2.2.2.1
theorem Wf12.i58 {n : Nat} {R : Nat → Nat → Option Nat} (h : Wf12 n R) : Is n 315 (1, 105) := h.2.2.2.2.2.2.2.2.2.2.2.2.2.2.2.2.2.2.2.2.2.2.2.2.2.2.2.2.2.2.2.2.2.2.2.2.2.2.2.2.2.2.2.2.2.2.2.2.2.2.2.2.2.2.2.2.2.2.2.2.2.2.2.2.2.2.2.2.2.2.2.2.2.2.2.2.2.2.2.2.2.2.1
theorem Wf12.r59 {n : Nat} {R : Nat → Nat → Option Nat} (h : Wf12 n R) : R 274 59 = some 316 := h.2.2.2.2.2.2.2.2.2.2.2.2.2.2.2.2.2.2.2.2.2.2.2.2.2.2.2.2.2.2.2.2.2.2.2.2.2.2.2.2.2.2.2.2.2.2.2.2.2.2.2.2.2.2.2.2.2.2.2.2.2.2.2.2.2.2.2.2.2.2.2.2.2.2.2.2.2.2.2.2.2.2.2.1
theorem Wf12.i59 {n : Nat} {R : Nat → Nat → Option Nat} (h : Wf12 n R) : Is n 316 (1, 105) := h.2.2.2.2.2.2.2.2.2.2.2.2.2.2.2.2.2.2.2.2.2.2.2.2.2.2.2.2.2.2.2.2.2.2.2.2.2.2.2.2.2.2.2.2.2.2.2.2.2.2.2.2.2.2.2.2.2.2.2.2.2.2.2.2.2.2.2.2.2.2.2.2.2.2.2.2.2.2.2.2.2.2.2.2.1
theorem Wf12.r62 {n : Nat} {R : Nat → Nat → Option Nat} (h : Wf12 n R) : R 274 62 = some 317 := h.2.2.2.2.2.2.2.2.2.2.2.2.2.2.2.2.2.2.2.2.2.2.2.2.2.2.2.2.2.2.2.2.2.2.2.2.2.2.2.2.2.2.2.2.2.2.2.2.2.2.2.2.2.2.2.2.2.2.2.2.2.2.2.2.2.2.2.2.2.2.2.2.2.2.2.2.2.2.2.2.2.2.2.2.2.1
theorem Wf12.i62 {n : Nat} {R : Nat → Nat → Option Nat} (h : Wf12 n R) : Is n 317 (1, 40) := h.2.2.2.2.2.2.2.2.2.2.2.2.2.2.2.2.2.2.2.2.2.2.2.2.2.2.2.2.2.2.2.2.2.2.2.2.2.2.2.2.2.2.2.2.2.2.2.2.2.2.2.2.2.2.2.2.2.2.2.2.2.2.2.2.2.2.2.2.2.2.2.2.2.2.2.2.2.2.2.2.2.2.2.2.2.2.1
theorem Wf12.r64 {n : Nat} {R : Nat → Nat → Option Nat} (h : Wf12 n R) : R 274 64 = some 318 := h.2.2.2.2.2.2.2.2.2.2.2.2.2.2.2.2.2.2.2.2.2.2.2.2.2.2.2.2.2.2.2.2.2.2.2.2.2.2.2.2.2.2.2.2.2.2.2.2.2.2.2.2.2.2.2.2.2.2.2.2.2.2.2.2.2.2.2.2.2.2.2.2.2.2.2.2.2.2.2.2.2.2.2.2.2.2.2.1
theorem Wf12.i64 {n : Nat} {R : Nat → Nat → Option Nat} (h : Wf12 n R) : Is n 318 (1, 3150) := h.2.2.2.2.2.2.2.2.2.2.2.2.2.2.2.2.2.2.2.2.2.2.2.2.2.2.2.2.2.2.2.2.2.2.2.2.2.2.2.2.2.2.2.2.2.2.2.2.2.2.2.2.2.2.2.2.2.2.2.2.2.2.2.2.2.2.2.2.2.2.2.2.2.2.2.2.2.2.2.2.2.2.2.2.2.2.2.2.1
theorem Wf12.r65 {n : Nat} {R : Nat → Nat → Option Nat} (h : Wf12 n R) : R 274 65 = some 319 := h.2.2.2.2.2.2.2.2.2.2.2.2.2.2.2.2.2.2.2.2.2.2.2.2.2.2.2.2.2.2.2.2.2.2.2.2.2.2.2.2.2.2.2.2.2.2.2.2.2.2.2.2.2.2.2.2.2.2.2.2.2.2.2.2.2.2.2.2.2.2.2.2.2.2.2.2.2.2.2.2.2.2.2.2.2.2.2.2.2.1
theorem Wf12.i65 {n : Nat} {R : Nat → Nat → Option Nat} (h : Wf12 n R) : Is n 319 (3, 40) := h.2.2.2.2.2.2.2.2.2.2.2.2.2.2.2.2.2.2.2.2.2.2.2.2.2.2.2.2.2.2.2.2.2.2.2.2.2.2.2.2.2.2.2.2.2.2.2.2.2.2.2.2.2.2.2.2.2.2.2.2.2.2.2.2.2.2.2.2.2.2.2.2.2.2.2.2.2.2.2.2.2.2.2.2.2.2.2.2.2.2.1
theorem Wf12.r66 {n : Nat} {R : Nat → Nat → Option Nat} (h : Wf12 n R) : R 274 66 = some 320 := h.2.2.2.2.2.2.2.2.2.2.2.2.2.2.2.2.2.2.2.2.2.2.2.2.2.2.2.2.2.2.2.2.2.2.2.2.2.2.2.2.2.2.2.2.2.2.2.2.2.2.2.2.2.2.2.2.2.2.2.2.2.2.2.2.2.2.2.2.2.2.2.2.2.2.2.2.2.2.2.2.2.2.2.2.2.2.2.2.2.2.2.1
theorem Wf12.i66 {n : Nat} {R : Nat → Nat → Option Nat} (h : Wf12 n R) : Is n 320 (3, 40) := h.2.2.2.2.2.2.2.2.2.2.2.2.2.2.2.2.2.2.2.2.2.2.2.2.2.2.2.2.2.2.2.2.2.2.2.2.2.2.2.2.2.2.2.2.2.2.2.2.2.2.2.2.2.2.2.2.2.2.2.2.2.2.2.2.2.2.2.2.2.2.2.2.2.2.2.2.2.2.2.2.2.2.2.2.2.2.2.2.2.2.2.2.1
theorem Wf12.r67 {n : Nat} {R : Nat → Nat → Option Nat} (h : Wf12 n R) : R 274 67 = some 321 := h.2.2.2.2.2.2.2.2.2.2.2.2.2.2.2.2.2.2.2.2.2.2.2.2.2.2.2.2.2.2.2.2.2.2.2.2.2.2.2.2.2.2.2.2.2.2.2.2.2.2.2.2.2.2.2.2.2.2.2.2.2.2.2.2.2.2.2.2.2.2.2.2.2.2.2.2.2.2.2.2.2.2.2.2.2.2.2.2.2.2.2.2.2.1
theorem Wf12.i67 {n : Nat} {R : Nat → Nat → Option Nat} (h : Wf12 n R) : Is n 321 (1, 3) := h.2.2.2.2.2.2.2.2.2.2.2.2.2.2.2.2.2.2.2.2.2.2.2.2.2.2.2.2.2.2.2.2.2.2.2.2.2.2.2.2.2.2.2.2.2.2.2.2.2.2.2.2.2.2.2.2.2.2.2.2.2.2.2.2.2.2.2.2.2.2.2.2.2.2.2.2.2.2.2.2.2.2.2.2.2.2.2.2.2.2.2.2.2.2.1
theorem Wf12.r69 {n : Nat} {R : Nat → Nat → Option Nat} (h : Wf12 n R) : R 274 69 = some 322 := h.2.2.2.2.2.2.2.2.2.2.2.2.2.2.2.2.2.2.2.2.2.2.2.2.2.2.2.2.2.2.2.2.2.2.2.2.2.2.2.2.2.2.2.2.2.2.2.2.2.2.2.2.2.2.2.2.2.2.2.2.2.2.2.2.2.2.2.2.2.2.2.2.2.2.2.2.2.2.2.2.2.2.2.2.2.2.2.2.2.2.2.2.2.2.2.1
theorem Wf12.i69 {n : Nat} {R : Nat → Nat → Option Nat} (h : Wf12 n R) : Is n 322 (1, 20) := h.2.2.2.2.2.2.2.2.2.2.2.2.2.2.2.2.2.2.2.2.2.2.2.2.2.2.2.2.2.2.2.2.2.2.2.2.2.2.2.2.2.2.2.2.2.2.2.2.2.2.2.2.2.2.2.2.2.2.2.2.2.2.2.2.2.2.2.2.2.2.2.2.2.2.2.2.2.2.2.2.2.2.2.2.2.2.2.2.2.2.2.2.2.2.2.2.1
theorem Wf12.r70 {n : Nat} {R : Nat → Nat → Option Nat} (h : Wf12 n R) : R 274 70 = some 323 := h.2.2.2.2.2.2.2.2.2.2.2.2.2.2.2.2.2.2.2.2.2.2.2.2.2.2.2.2.2.2.2.2.2.2.2.2.2.2.2.2.2.2.2.2.2.2.2.2.2.2.2.2.2.2.2.2.2.2.2.2.2.2.2.2.2.2.2.2.2.2.2.2.2.2.2.2.2.2.2.2.2.2.2.2.2.2.2.2.2.2.2.2.2.2.2.2.2.1
theorem Wf12.i70 {n : Nat} {R : Nat → Nat → Option Nat} (h : Wf12 n R) : Is n 323 (1, 20) := h.2.2.2.2.2.2.2.2.2.2.2.2.2.2.2.2.2.2.2.2.2.2.2.2.2.2.2.2.2.2.2.2.2.2.2.2.2.2.2.2.2.2.2.2.2.2.2.2.2.2.2.2.2.2.2.2.2.2.2.2.2.2.2.2.2.2.2.2.2.2.2.2.2.2.2.2.2.2.2.2.2.2.2.2.2.2.2.2.2.2.2.2.2.2.2.2.2.2.1
theorem Wf12.r71 {n : Nat} {R : Nat → Nat → Option Nat} (h : Wf12 n R) : R 274 71 = some 324 := h.2.2.2.2.2.2.2.2.2.2.2.2.2.2.2.2.2.2.2.2.2.2.2.2.2.2.2.2.2.2.2.2.2.2.2.2.2.2.2.2.2.2.2.2.2.2.2.2.2.2.2.2.2.2.2.2.2.2.2.2.2.2.2.2.2.2.2.2.2.2.2.2.2.2.2.2.2.2.2.2.2.2.2.2.2.2.2.2.2.2.2.2.2.2.2.2.2.2.2.1
theorem Wf12.i71 {n : Nat} {R : Nat → Nat → Option Nat} (h : Wf12 n R) : Is n 324 (1, 20) := h.2.2.2.2.2.2.2.2.2.2.2.2.2.2.2.2.2.2.2.2.2.2.2.2.2.2.2.2.2.2.2.2.2.2.2.2.2.2.2.2.2.2.2.2.2.2.2.2.2.2.2.2.2.2.2.2.2.2.2.2.2.2.2.2.2.2.2.2.2.2.2.2.2.2.2.2.2.2.2.2.2.2.2.2.2.2.2.2.2.2.2.2.2.2.2.2.2.2.2.2.1
theorem Wf12.r72 {n : Nat} {R : Nat → Nat → Option Nat} (h : Wf12 n R) : R 274 72 = some 325 := h.2.2.2.2.2.2.2.2.2.2.2.2.2.2.2.2.2.2.2.2.2.2.2.2.2.2.2.2.2.2.2.2.2.2.2.2.2.2.2.2.2.2.2.2.2.2.2.2.2.2.2.2.2.2.2.2.2.2.2.2.2.2.2.2.2.2.2.2.2.2.2.2.2.2.2.2.2.2.2.2.2.2.2.2.2.2.2.2.2.2.2.2.2.2.2.2.2.2.2.2.2.1
theorem Wf12.i72 {n : Nat} {R : Nat → Nat → Option Nat} (h : Wf12 n R) : Is n 325 (1, 4000) := h.2.2.2.2.2.2.2.2.2.2.2.2.2.2.2.2.2.2.2.2.2.2.2.2.2.2.2.2.2.2.2.2.2.2.2.2.2.2.2.2.2.2.2.2.2.2.2.2.2.2.2.2.2.2.2.2.2.2.2.2.2.2.2.2.2.2.2.2.2.2.2.2.2.2.2.2.2.2.2.2.2.2.2.2.2.2.2.2.2.2.2.2.2.2.2.2.2.2.2.2.2.2.1
theorem Wf12.r73 {n : Nat} {R : Nat → Nat → Option Nat} (h : Wf12 n R) : R 274 73 = some 326 := h.2.2.2.2.2.2.2.2.2.2.2.2.2.2.2.2.2.2.2.2.2.2.2.2.2.2.2.2.2.2.2.2.2.2.2.2.2.2.2.2.2.2.2.2.2.2.2.2.2.2.2.2.2.2.2.2.2.2.2.2.2.2.2.2.2.2.2.2.2.2.2.2.2.2.2.2.2.2.2.2.2.2.2.2.2.2.2.2.2.2.2.2.2.2.2.2.2.2.2.2.2.2.2.1
theorem Wf12.i73 {n : Nat} {R : Nat → Nat → Option Nat} (h : Wf12 n R) : Is n 326 (3, 3) := h.2.2.2.2.2.2.2.2.2.2.2.2.2.2.2.2.2.2.2.2.2.2.2.2.2.2.2.2.2.2.2.2.2.2.2.2.2.2.2.2.2.2.2.2.2.2.2.2.2.2.2.2.2.2.2.2.2.2.2.2.2.2.2.2.2.2.2.2.2.2.2.2.2.2.2.2.2.2.2.2.2.2.2.2.2.2.2.2.2.2.2.2.2.2.2.2.2.2.2.2.2.2.2.2.1
theorem Wf12.r74 {n : Nat} {R : Nat → Nat → Option Nat} (h : Wf12 n R) : R 274 74 = some 327 := h.2.2.2.2.2.2.2.2.2.2.2.2.2.2.2.2.2.2.2.2.2.2.2.2.2.2.2.2.2.2.2.2.2.2.2.2.2.2.2.2.2.2.2.2.2.2.2.2.2.2.2.2.2.2.2.2.2.2.2.2.2.2.2.2.2.2.2.2.2.2.2.2.2.2.2.2.2.2.2.2.2.2.2.2.2.2.2.2.2.2.2.2.2.2.2.2.2.2.2.2.2.2.2.2.2.1
theorem Wf12.i74 {n : Nat} {R : Nat → Nat → Option Nat} (h : Wf12 n R) : Is n 327 (1, 315) := h.2.2.2.2.2.2.2.2.2.2.2.2.2.2.2.2.2.2.2.2.2.2.2.2.2.2.2.2.2.2.2.2.2.2.2.2.2.2.2.2.2.2.2.2.2.2.2.2.2.2.2.2.2.2.2.2.2.2.2.2.2.2.2.2.2.2.2.2.2.2.2.2.2.2.2.2.2.2.2.2.2.2.2.2.2.2.2.2.2.2.2.2.2.2.2.2.2.2.2.2.2.2.2.2.2.2
theorem nle {a b : Nat} (h : Nat.ble a b = true) : a ≤ b := Nat.le_of_ble_eq_true h
theorem okObj : Cond.instanceMethod Lib.objectInit ∈ good_tbl ∧ Cond.code Lib.objectInit ⟨#[0xb1]⟩ 1 none ∈ good_tbl := ⟨(wg1 26 rfl rfl), (wg1 27 rfl rfl)⟩
theorem okMax : OkMax := ⟨(wg3 76 rfl rfl), (wg1 18 rfl rfl), (wg3 77 rfl rfl)⟩
theorem okMin : OkMin := ⟨(wg3 79 rfl rfl), (wg1 18 rfl rfl), (wg3 80 rfl rfl)⟩
