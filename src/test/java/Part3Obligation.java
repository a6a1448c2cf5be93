import java.util.Random;

/**
 * Part 3 of the document, THE OBLIGATION, sentence by sentence. That a PART is a formula F, to the
 * letter, is seen by PUT F 0 0: it has fault 8 if W is not F, else what stands behind it is read.
 */
public final class Part3Obligation {
  private static final byte[] ZERO = Wire.num(0);

  /** The claim of MARK 1: it speaks of all registers. */
  private static byte[] ofAll(byte[]... t) {
    return Wire.and(Wire.equal(t[0], t[1]), Wire.and(Wire.less(t[2], t[3]), Wire.and(Wire.atMost(t[4], t[5]),
        Wire.unequal(t[6], t[7]))));
  }

  private static byte[] claimOfAll() {
    byte[][] r = new byte[8][];
    for (int i = 0; i < 8; i++) {
      r[i] = Wire.reg(i);
    }
    return ofAll(r);
  }

  /** The registers of a PART of a MARK, seen from within so many binders more. */
  private static byte[][] variables(int within) {
    byte[][] r = new byte[8][];
    for (int i = 0; i < 8; i++) {
      r[i] = Wire.var(7 - i + within);
    }
    return r;
  }

  private static byte[][] zeros() {
    byte[][] r = new byte[8][];
    java.util.Arrays.fill(r, ZERO);
    return r;
  }

  private static byte[][] with(byte[][] r, int a, byte[] t) {
    byte[][] s = r.clone();
    s[a] = t;
    return s;
  }

  private static byte[] partOf(byte[] claim, byte[] path) {
    return Wire.all(8, Wire.then(claim, path));
  }

  private static byte[] within(int lo, int hi, byte[] cell) {
    return Wire.and(Wire.atMost(Wire.num(lo), cell), Wire.less(cell, Wire.num(hi)));
  }

  /** Behind the derivations of the PARTS ahead of it, the next PART is this formula. */
  private static CodeHarbour partIs(CodeHarbour x, String what, byte[] opening, byte[] ahead,
      byte[] formula) {
    byte[] put = Wire.join(38, formula, ZERO, ZERO, 37, 99);
    int place = opening.length + ahead.length;
    Ledger.loads(x, what, 7, place + put.length - 1, opening, ahead, put);
    // The last byte is another number, or another variable, or TRUE.
    byte[] other = formula.clone();
    int last = other.length - 1;
    other[last] = (byte) (other[last] == 16 ? 17 : other[last] == 0 ? 1 : 0);
    Object more = other[last] == 17 ? Wire.join(16, 16) : new byte[0];
    Ledger.loads(x, what + ", and no other", 8, place, opening, ahead, 38, other, more, ZERO, ZERO, 37, 99);
    return x;
  }

  /** MARK 0 (TRUE), one instruction, MARK 1 (of all registers), HALT: PART 1, and all NODES. */
  private static void pathOf(String what, byte[] instruction, byte[] path) {
    pathOf(new CodeHarbour(), what, instruction, path);
  }

  private static void pathOf(CodeHarbour x, String what, byte[] instruction, byte[] path) {
    byte[] opening = Wire.join(Wire.code(2, Wire.mark(0), instruction, Wire.mark(1), Wire.HALT), Wire.TRUE,
        claimOfAll());
    byte[] part1 = partOf(Wire.TRUE, path);
    byte[] part2 = partOf(ofAll(variables(0)), Wire.TRUE);
    partIs(x, what, opening, Wire.join(32), part1);
    Ledger.due(what + ": NODES", x.told(1), 1 + Wire.nodes(part1) + Wire.nodes(part2));
  }

  private static void parts() {
    Ledger.sentence("Part 3", "PARTS 0, 1, .., one more than there are MARKS");
    byte[] none = Wire.code(0, Wire.HALT);
    Ledger.loads("no MARK, one PART", 0, -1, none, 32);
    Ledger.loads("no MARK, two PARTS", 9, none.length + 1, none, 32, Wire.PART_OF_TRUE);
    byte[] two = Wire.join(Wire.code(1, Wire.mark(0), Wire.HALT, Wire.mark(0), Wire.HALT), Wire.TRUE);
    Ledger.loads("two MARKS, three PARTS", 0, -1, two, 32, Wire.PART_OF_TRUE, Wire.PART_OF_TRUE);
    Ledger.loads("two MARKS, two PARTS", 1, two.length + 11, two, 32, Wire.PART_OF_TRUE);
    Ledger.loads("two MARKS, four PARTS", 9, two.length + 21, two, 32, Wire.times(3, Wire.PART_OF_TRUE));
    Ledger.sentence("Part 3", "PART 0 is the PATH from place 0 with numbers 0 as registers");
    partIs(new CodeHarbour(), "zeros", Wire.join(Wire.code(1, Wire.mark(0), Wire.HALT), claimOfAll()),
        new byte[0], ofAll(zeros()));
    partIs(new CodeHarbour(), "a path", Wire.join(Wire.code(1, Wire.addi(5, 6, 9), Wire.mark(0), Wire.HALT),
        claimOfAll()), new byte[0], ofAll(with(zeros(), 5, Wire.plus(ZERO, Wire.num(9)))));
    Ledger.sentence("Part 3",
        "ALL eight times, for registers 0 to 7, the outermost for 0: the claim of this MARK at them IF-THEN"
        + " the PATH from the place behind it with them");
    byte[] opening = Wire.join(Wire.code(2, Wire.mark(0), Wire.HALT, Wire.mark(1), Wire.HALT), Wire.TRUE,
        claimOfAll());
    partIs(new CodeHarbour(), "the claim at variables", opening, Wire.join(32, Wire.PART_OF_TRUE),
        partOf(ofAll(variables(0)), Wire.TRUE));
    Ledger.sentence("Part 3", "PART k is, for the k-th MARK by places");
    // MARKS with claims 2, 0 and 1, reached by jumps in another order.
    byte[] marks = Wire.join(Wire.code(3, Wire.mark(2), Wire.jmp(4), Wire.mark(0), Wire.HALT, Wire.mark(1),
        Wire.jmp(2)), Wire.equal(Wire.reg(0), Wire.reg(1)), Wire.equal(Wire.reg(2), Wire.reg(3)),
        Wire.equal(Wire.reg(4), Wire.reg(5)));
    byte[] claim1 = Wire.equal(Wire.var(5), Wire.var(4));
    byte[] claim2 = Wire.equal(Wire.var(3), Wire.var(2));
    partIs(new CodeHarbour(), "PART 0", marks, new byte[0], Wire.equal(ZERO, ZERO));
    partIs(new CodeHarbour(), "PART 1", marks, Wire.join(37), partOf(claim2, claim1));
  }

  private static void order() {
    Ledger.sentence("Part 3", "PART k is, for the k-th MARK by places: PARTS 1, 2 and 3 in their order");
    byte[] opening = Wire.join(Wire.code(3, Wire.mark(2), Wire.HALT, Wire.mark(0), Wire.trap(1), Wire.mark(1),
        Wire.HALT), Wire.equal(Wire.reg(0), Wire.reg(1)), Wire.equal(Wire.reg(2), Wire.reg(3)),
        Wire.equal(Wire.reg(4), Wire.reg(5)));
    byte[] ahead = Wire.join(37);
    int[] outer = {3, 7, 5};
    for (int k = 0; k < 3; k++) {
      partIs(new CodeHarbour(), "PART " + (k + 1), opening, ahead, partOf(Wire.equal(Wire.var(outer[k]),
          Wire.var(outer[k] - 1)), Wire.TRUE));
      ahead = Wire.join(ahead, Wire.PART_OF_TRUE);
    }
    Ledger.loads("all of them", 0, -1, opening, ahead);
  }

  private static void plainPaths() {
    Ledger.sentence("Part 3",
        "LI, MOV, ADD, SUB, MUL, ADDI: the PATH from the next place, r[a] being the number n, r[b], r[b] +"
        + " r[c], r[b] - r[c], r[b] * r[c], r[b] + the number n");
    byte[][] r = variables(0);
    pathOf("LI", Wire.li(3, -9), ofAll(with(r, 3, Wire.num(-9))));
    pathOf("LI of register 0", Wire.li(0, 7), ofAll(with(r, 0, Wire.num(7))));
    pathOf("MOV", Wire.mov(3, 6), ofAll(with(r, 3, r[6])));
    pathOf("MOV of itself", Wire.mov(4, 4), ofAll(r));
    pathOf("ADD", Wire.ins(2, 1, 4, 7), ofAll(with(r, 1, Wire.plus(r[4], r[7]))));
    pathOf("ADD of itself", Wire.ins(2, 1, 1, 1), ofAll(with(r, 1, Wire.plus(r[1], r[1]))));
    pathOf("SUB", Wire.ins(3, 7, 2, 0), ofAll(with(r, 7, Wire.minus(r[2], r[0]))));
    pathOf("MUL", Wire.ins(4, 2, 5, 3), ofAll(with(r, 2, Wire.product(r[5], r[3]))));
    pathOf("ADDI", Wire.addi(6, 5, -3), ofAll(with(r, 6, Wire.plus(r[5], Wire.num(-3)))));
    pathOf("ADDI of 0", Wire.addi(6, 6, 0), ofAll(with(r, 6, Wire.plus(r[6], ZERO))));
  }

  private static void cellPaths() {
    byte[][] r = variables(0);
    byte[][] further = variables(1);
    Ledger.sentence("Part 3",
        "LD: (rlo <= r[b] + n AND r[b] + n < rhi) AND ALL of the PATH from the next place, r[a] being the"
        + " variable");
    for (int a : new int[] {0, 3, 7}) {
      pathOf("LD " + a, Wire.ld(a, 3, 21), Wire.and(within(0, 256, Wire.plus(r[3], Wire.num(21))),
          Wire.all(ofAll(with(further, a, Wire.var(0))))));
    }
    CodeHarbour x = new CodeHarbour();
    x.policy(7, 99, 8, 98);
    pathOf(x, "LD by the policy", Wire.ld(1, 2, -1), Wire.and(within(7, 99, Wire.plus(r[2], Wire.num(-1))),
        Wire.all(ofAll(with(further, 1, Wire.var(0))))));
    Ledger.sentence("Part 3", "ST: (wlo <= r[b] + n AND r[b] + n < whi) AND the PATH from the next place");
    pathOf("ST", Wire.st(4, 3, 21), Wire.and(within(0, 256, Wire.plus(r[3], Wire.num(21))), ofAll(r)));
    pathOf(x, "ST by the policy", Wire.st(3, 3, 0), Wire.and(within(8, 98, Wire.plus(r[3], ZERO)), ofAll(r)));
    Ledger.sentence("Part 3", "LD behind LD: ALL within ALL");
    byte[] opening = Wire.join(Wire.code(1, Wire.ld(2, 0, 1), Wire.ld(5, 2, 3), Wire.mark(0), Wire.HALT),
        claimOfAll());
    byte[] inner = Wire.and(within(0, 256, Wire.plus(Wire.var(0), Wire.num(3))),
        Wire.all(ofAll(with(with(zeros(), 2, Wire.var(1)), 5, Wire.var(0)))));
    partIs(new CodeHarbour(), "LD, LD", opening, new byte[0], Wire.and(within(0, 256, Wire.plus(ZERO,
        Wire.num(1))), Wire.all(inner)));
  }

  private static void jumpPaths() {
    byte[][] r = variables(0);
    Ledger.sentence("Part 3", "JMP: the claim of the MARK at n, at r");
    pathOf("JMP", Wire.jmp(2), ofAll(r));
    pathOf("JMP to another MARK", Wire.jmp(0), Wire.TRUE);
    Ledger.sentence("Part 3",
        "JLT: (r[a] < r[b] IF-THEN that claim at r) AND (r[b] <= r[a] IF-THEN the PATH from the next place)");
    pathOf("JLT", Wire.ins(9, 3, 6, 2), Wire.and(Wire.then(Wire.less(r[3], r[6]), ofAll(r)),
        Wire.then(Wire.atMost(r[6], r[3]), ofAll(r))));
    pathOf("JLT to another MARK", Wire.ins(9, 0, 7, 0), Wire.and(Wire.then(Wire.less(r[0], r[7]), Wire.TRUE),
        Wire.then(Wire.atMost(r[7], r[0]), ofAll(r))));
    Ledger.sentence("Part 3",
        "JLE, JEQ, JNE likewise, with r[a] <= r[b] and r[b] < r[a]; r[a] = r[b] and r[a] != r[b]; r[a] !="
        + " r[b] and r[a] = r[b]");
    pathOf("JLE", Wire.ins(10, 3, 6, 2), Wire.and(Wire.then(Wire.atMost(r[3], r[6]), ofAll(r)),
        Wire.then(Wire.less(r[6], r[3]), ofAll(r))));
    pathOf("JEQ", Wire.ins(11, 3, 6, 2), Wire.and(Wire.then(Wire.equal(r[3], r[6]), ofAll(r)),
        Wire.then(Wire.unequal(r[3], r[6]), ofAll(r))));
    pathOf("JNE", Wire.ins(12, 3, 6, 2), Wire.and(Wire.then(Wire.unequal(r[3], r[6]), ofAll(r)),
        Wire.then(Wire.equal(r[3], r[6]), ofAll(r))));
    Ledger.sentence("Part 3", "HALT, TRAP: TRUE. MARK: its claim at r");
    pathOf("HALT", Wire.HALT, Wire.TRUE);
    pathOf("TRAP", Wire.trap(5), Wire.TRUE);
    pathOf("MARK", Wire.mov(0, 0), ofAll(r));
  }

  /** The term that register a has behind an instruction of ops 0 to 5. */
  private static byte[] term(byte[][] r, int op, int b, int n) {
    return switch (op) {
      case 0 -> Wire.num(n);
      case 1 -> r[b];
      case 2 -> Wire.plus(r[b], r[n]);
      case 3 -> Wire.minus(r[b], r[n]);
      case 4 -> Wire.product(r[b], r[n]);
      default -> Wire.plus(r[b], Wire.num(n));
    };
  }

  /** What ops 6 to 12 make of the PATH behind them, which is a claim, as is that of the MARK they jump to. */
  private static byte[] last(byte[][] r, int op, int a, int b, int n) {
    byte[] claim = ofAll(r);
    return switch (op) {
      case 6 -> Wire.and(within(0, 256, Wire.plus(r[b], Wire.num(n))), Wire.all(ofAll(with(r, a,
          Wire.var(0)))));
      case 7 -> Wire.and(within(0, 256, Wire.plus(r[b], Wire.num(n))), claim);
      case 8 -> claim;
      case 9 -> Wire.and(Wire.then(Wire.less(r[a], r[b]), claim), Wire.then(Wire.atMost(r[b], r[a]), claim));
      case 10 -> Wire.and(Wire.then(Wire.atMost(r[a], r[b]), claim), Wire.then(Wire.less(r[b], r[a]), claim));
      case 11 -> Wire.and(Wire.then(Wire.equal(r[a], r[b]), claim), Wire.then(Wire.unequal(r[a], r[b]),
          claim));
      default -> Wire.and(Wire.then(Wire.unequal(r[a], r[b]), claim), Wire.then(Wire.equal(r[a], r[b]),
          claim));
    };
  }

  private static void longPaths() {
    Ledger.sentence("Part 3", "the PATH from the next place: instructions behind one another, and its NODES");
    Random random = new Random(3);
    for (int i = 0; i < 140; i++) {
      byte[][] r = zeros();
      byte[] code = new byte[0];
      int many = 1 + random.nextInt(9);
      for (int k = 0; k < many; k++) {
        int a = random.nextInt(8);
        int b = random.nextInt(8);
        int op = random.nextInt(6);
        int n = op == 1 ? 0 : random.nextInt(8);
        if (Wire.nodes(term(r, op, b, n)) > 50) {
          op = 0;
        }
        code = Wire.join(code, Wire.ins(op, a, op == 0 ? 0 : b, n));
        r = with(r, a, term(r, op, b, n));
      }
      int op = 6 + i % 7;
      int a = op == 8 ? 0 : random.nextInt(8);
      int b = op == 8 ? 0 : random.nextInt(8);
      int n = op < 8 ? random.nextInt(9) : many + 1;
      byte[] opening = Wire.join(Wire.head(many + 3, 1), code, Wire.ins(op, a, b, n), Wire.mark(0), Wire.HALT,
          claimOfAll());
      byte[] part0 = last(r, op, a, b, n);
      CodeHarbour x = partIs(new CodeHarbour(), "path " + i, opening, new byte[0], part0);
      Ledger.due("NODES of path " + i, x.told(1), Wire.nodes(part0) + Wire.nodes(partOf(ofAll(variables(0)),
          Wire.TRUE)));
    }
  }

  private static void nodes() {
    Ledger.sentence("Part 3",
        "NODES: each number, variable, operation, relation, TRUE, AND, IF-THEN, ALL is one, wherever it"
        + " stands");
    CodeHarbour x = Ledger.loads("HALT", 0, -1, Wire.code(0, Wire.HALT), 32);
    Ledger.due("TRUE is 1", x.told(1), 1);
    // A term of a register counts at every place of that register in a claim.
    byte[] claim = Wire.all(Wire.and(Wire.less(Wire.reg(1), Wire.reg(1)), Wire.fits(Wire.var(0),
        Wire.reg(1))));
    byte[] opening = Wire.join(Wire.code(1, Wire.addi(1, 1, 5), Wire.addi(1, 1, 6), Wire.mark(0), Wire.HALT),
        claim);
    x = Ledger.loads("a claim", 7, opening.length, opening, 99);
    // ALL, AND, <, FITS, a variable, three times a term of 5; then 8 ALL, IF-THEN, the claim with 3
    // variables, TRUE.
    Ledger.due("a claim at terms", x.told(1), 5 + 3 * 5 + 8 + 1 + 5 + 3 + 1);
    Ledger.sentence("Part 3",
        "The PATH ends at JMP, HALT, TRAP and MARK: what no PATH comes to is not in it");
    x = Ledger.loads("behind a HALT", 0, -1, Wire.code(0, Wire.HALT, Wire.ld(0, 0, 999), Wire.HALT), 32);
    Ledger.due("NODES", x.told(1), 1);
    x = Ledger.loads("behind a TRAP", 0, -1, Wire.code(0, Wire.trap(1), Wire.st(0, 0, -1), Wire.HALT), 32);
    Ledger.due("NODES", x.told(1), 1);
    x = Ledger.loads("behind a JMP", 0, -1, Wire.code(1, Wire.mark(0), Wire.jmp(0), Wire.ld(0, 0, 999),
        Wire.HALT), Wire.TRUE, 32, Wire.PART_OF_TRUE);
    Ledger.due("NODES", x.told(1), 12);
    x = Ledger.loads("claims of no MARK", 0, -1, Wire.code(2, Wire.HALT), claim, claim, 32);
    Ledger.due("NODES", x.told(1), 1);
  }

  public static void main(String[] args) {
    parts();
    order();
    plainPaths();
    cellPaths();
    jumpPaths();
    longPaths();
    nodes();
    Ledger.close();
  }
}
