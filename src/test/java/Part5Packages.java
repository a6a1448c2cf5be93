import java.util.Arrays;

/** Part 5 of the document, A PACKAGE and its FAULTS, sentence by sentence. */
public final class Part5Packages {
  private static final byte[] ZERO = Wire.num(0);
  private static final byte[] NOTHING = {};

  /** A package that comes in, with every kind of byte in it. */
  private static byte[] whole() {
    byte[] claim0 = Wire.and(Wire.atMost(Wire.num(0), Wire.reg(1)), Wire.less(Wire.reg(1), Wire.num(9)));
    byte[] claim1 = Wire.all(Wire.then(Wire.less(Wire.var(0), Wire.reg(1)), Wire.less(Wire.var(0),
        Wire.reg(1))));
    // What no MARK has is read, too.
    byte[] claim2 = Wire.and(Wire.TRUE, Wire.then(Wire.equal(Wire.reg(7), Wire.num(-1)),
        Wire.all(Wire.and(Wire.unequal(Wire.plus(Wire.var(0), Wire.num(1)), Wire.minus(Wire.reg(0),
        Wire.num(2))), Wire.fits(Wire.product(Wire.num(3), Wire.reg(4)), Wire.var(0))))));
    byte[] opening = Wire.join(Wire.code(3, Wire.li(1, 5), Wire.mark(0), Wire.ld(3, 1, 2), Wire.jmp(4),
        Wire.mark(1), Wire.trap(9)), claim0, claim1, claim2);
    byte[] low = Wire.join(65, 64, 0);
    byte[] high = Wire.join(66, 64, 0);
    byte[] notBelow = Wire.join(40, Wire.plus(ZERO, Wire.num(2)), 36, 45, Wire.num(9), low, 39, high, 36, 36);
    byte[] notBeyond = Wire.join(41, Wire.plus(Wire.num(9), Wire.num(2)), 46, ZERO, low, high, 36, 36, 36);
    byte[] part1 = Wire.join(Wire.times(8, 35), 34, 33, 33, notBelow, notBeyond, 35, 35, 34, 64, 0);
    byte[] put = Wire.join(38, Wire.and(Wire.atMost(ZERO, Wire.var(0)), Wire.less(Wire.var(0), Wire.num(9))),
        Wire.minus(Wire.num(8), Wire.num(3)), Wire.num(5), 36, 33, 36, 36);
    return Wire.join(opening, put, part1, Wire.PART_OF_TRUE);
  }

  private static void cuts() {
    Ledger.sentence("Part 5", "1 CUT: one is wanted and there is none (place: how many there are)");
    byte[] whole = whole();
    CodeHarbour x = Ledger.loads("all of it", 0, -1, whole);
    Ledger.due("run()", x.run(9), 2);
    for (int size = 0; size < whole.length; size++) {
      Ledger.loads("its first " + size, 1, size, Wire.upTo(whole, size));
    }
    // The bytes of what is none are all wanted, until the last one of them is there.
    byte[] bad = Wire.join(Wire.head(1, 0), 99, 99, 99, 99, 99, 99, 99);
    for (int size = 5; size < bad.length; size++) {
      Ledger.loads("an instruction that is none, " + size, 1, size, Wire.upTo(bad, size));
    }
    byte[] register = Wire.join(Wire.code(1, Wire.HALT), 20, 6);
    Ledger.loads("a register's byte", 1, register.length, register);
    byte[] number = Wire.join(Wire.code(1, Wire.HALT), 20, 1, 0, 0, 0);
    Ledger.loads("a number's last byte", 1, number.length, number);
    byte[] hypothesis = Wire.join(Wire.code(0, Wire.HALT), 64);
    Ledger.loads("a hypothesis' byte", 1, hypothesis.length, hypothesis);
    Ledger.sentence("Part 5", "Then 9: there are more bytes (place of the first one)");
    for (int more : new int[] {0, 16, 32, 80, 255}) {
      Ledger.loads("one more", 9, whole.length, whole, more);
      Ledger.loads("many more", 9, whole.length, whole, more, whole);
    }
    Ledger.loads("a fault of 8 goes first", 8, 12, Wire.code(0, Wire.HALT), 36, 32);
  }

  private static void heads() {
    Ledger.sentence("Part 5", "the byte 80; 2 HEAD: 80 (place 0)");
    for (int first : new int[] {0, 79, 81, 208, 255}) {
      Ledger.loads("first byte " + first, 2, 0, first);
      Ledger.loads("first byte " + first, 2, 0, first, 0, 1, 0, 0, Wire.HALT, 32);
    }
    Ledger.sentence("Part 5",
        "how many instructions there are (2 bytes, the highest first), 1 to 1000; 2 HEAD: instructions (1)");
    Ledger.loads("0", 2, 1, 80, 0, 0);
    Ledger.loads("0, and more", 2, 1, 80, 0, 0, 0, 0, 32);
    Ledger.loads("1", 0, -1, Wire.code(0, Wire.HALT), 32);
    Ledger.loads("1001", 2, 1, 80, 3, 233);
    Ledger.loads("1000 are wanted then", 1, 3, 80, 3, 232);
    Ledger.loads("1024", 2, 1, 80, 4, 0);
    Ledger.loads("32768", 2, 1, 80, 128, 0);
    Ledger.loads("65535", 2, 1, 80, 255, 255);
    Ledger.loads("256 in the lower byte", 1, 12, 80, 1, 0, 0, 0, Wire.HALT);
    CodeHarbour x = Ledger.loads("1000", 0, -1, Wire.head(1000, 0), Wire.times(999, Wire.li(7, 3)), Wire.HALT,
        32);
    Ledger.due("told(0)", x.told(0), 1000);
    Ledger.due("run()", x.run(1000), 1);
    Ledger.due("steps()", x.steps(), 1000);
    Ledger.sentence("Part 5", "how many claims (2), at most 1000; 2 HEAD: claims (3)");
    Ledger.loads("0", 0, -1, Wire.head(1, 0), Wire.HALT, 32);
    Ledger.loads("1000", 0, -1, Wire.head(1, 1000), Wire.HALT, Wire.times(1000, 16), 32);
    Ledger.loads("the last one of 1000 is wanted", 4, 12 + 999, Wire.head(1, 1000), Wire.HALT, Wire.times(999,
        16), 32);
    Ledger.loads("1001", 2, 3, Wire.head(1, 1001));
    Ledger.loads("1001, and more", 2, 3, Wire.head(1, 1001), Wire.HALT, Wire.times(1001, 16), 32);
    Ledger.loads("65535", 2, 3, 80, 0, 1, 255, 255);
    Ledger.loads("256 in the lower byte", 1, 13, 80, 0, 1, 1, 0, Wire.HALT, 16);
    Ledger.loads("instructions go first", 2, 1, 80, 0, 0, 255, 255);
    Ledger.loads("80 goes first", 2, 0, 81, 0, 0, 255, 255);
  }

  /** An instruction stands behind a MARK, ahead of a HALT, with one claim. */
  private static void instruction(String what, boolean well, byte[] instruction) {
    byte[] opening = Wire.join(Wire.code(1, Wire.mark(0), instruction, Wire.HALT), 16);
    CodeHarbour x = new CodeHarbour();
    Ledger.bring(x, Wire.join(opening, 99));
    x.load();
    Ledger.due(what + ": fault(0)", x.fault(0), well ? 7 : 3);
    Ledger.due(what + ": fault(1)", x.fault(1), well ? opening.length : 12);
    Ledger.due(what + ": held", x.told(0), well ? 3 : 0);
  }

  /** For each op what is named with it. */
  private static final String[] NAMED = {"an", "ab", "abc", "abc", "abc", "abn", "abn", "abn", "n", "abn",
      "abn", "abn", "abn", "", "n", "n"};

  /** An n with which the instruction is well, where there is a choice. */
  private static int someN(int op) {
    return op == 14 ? 1 : 0;
  }

  private static void codes() {
    Ledger.sentence("Part 5", "3 CODE: an op above 15");
    for (int op = 0; op < 256; op++) {
      instruction("op " + op, op <= 15, Wire.ins(op, 0, 0, op < 16 ? someN(op) : 0));
    }
    Ledger.sentence("Part 5", "3 CODE: a register above 7; what is not named with an op must be 0");
    for (int op = 0; op < 16; op++) {
      for (int a : new int[] {1, 7, 8, 128, 255}) {
        instruction("op " + op + ", a " + a, NAMED[op].contains("a") && a <= 7, Wire.ins(op, a, 0,
            someN(op)));
        instruction("op " + op + ", b " + a, NAMED[op].contains("b") && a <= 7, Wire.ins(op, 0, a,
            someN(op)));
      }
      for (int n : new int[] {-1, 1, 7, 8, 256, 65536, 16777216, Wire.LEAST, Wire.MOST}) {
        boolean free = op == 0 || op == 5 || op == 6 || op == 7;
        boolean register = op >= 2 && op <= 4;
        instruction("op " + op + ", n " + n,
            free || register && n >= 0 && n <= 7 || op == 14 && n >= 1 && n <= 99, Wire.ins(op, 0, 0, n));
      }
    }
    Ledger.sentence("Part 5", "3 CODE: n of TRAP 1 to 99");
    for (int n : new int[] {Wire.LEAST, -1, 0, 1, 99, 100, 257, Wire.MOST}) {
      instruction("TRAP " + n, n >= 1 && n <= 99, Wire.trap(n));
    }
    Ledger.sentence("Part 5", "n (4, with sign)");
    CodeHarbour x = Ledger.loads("LI", 0, -1, Wire.code(0, Wire.join(0, 0, 0, 255, 254, 253, 252), Wire.HALT),
        32);
    x.run(2);
    Ledger.due("result()", x.result(), 0xfffefdfc);
    Ledger.sentence("Part 5",
        "3 (place of the instruction's first byte; looked at when its seven are there)");
    for (int at = 0; at < 4; at++) {
      byte[][] code = {Wire.li(0, 1), Wire.li(0, 2), Wire.li(0, 3), Wire.HALT};
      code[at] = Wire.ins(16, 0, 0, 0);
      Ledger.loads("instruction " + at, 3, 5 + 7 * at, Wire.upTo(Wire.code(0, code), 5 + 7 * at + 7));
      Ledger.loads("cut at instruction " + at, 1, 5 + 7 * at + 6, Wire.upTo(Wire.code(0, code),
          5 + 7 * at + 6));
    }
    Ledger.loads("the first one of two", 3, 5, Wire.code(0, Wire.li(8, 0), Wire.li(9, 0)));
  }

  private static void jumps() {
    Ledger.sentence("Part 5",
        "When all instructions are there, 3 for each in order: n of a jump is the place of a MARK");
    for (int op = 8; op <= 12; op++) {
      for (int n = -1; n <= 4; n++) {
        boolean well = n == 1 || n == 3;
        byte[] opening = Wire.join(Wire.code(1, Wire.ins(op, 0, 0, n), Wire.mark(0), Wire.li(0, 0),
            Wire.mark(0), Wire.HALT), 16);
        Ledger.loads("op " + op + " to " + n, well ? 7 : 3, well ? opening.length : 5, opening, 99);
      }
    }
    for (int n : new int[] {Wire.LEAST, Wire.MOST, 1000, 65536, 257}) {
      Ledger.loads("a jump to " + n, 3, 12, Wire.code(1, Wire.mark(0), Wire.jmp(n)), 16, 99);
    }
    Ledger.sentence("Part 5", "3 for each in order: n of a MARK is a claim's number");
    for (int n = -1; n <= 3; n++) {
      boolean well = n >= 0 && n < 2;
      byte[] opening = Wire.join(Wire.code(2, Wire.mark(n), Wire.HALT), 16, 16);
      Ledger.loads("MARK " + n, well ? 7 : 3, well ? opening.length : 5, opening, 99);
    }
    Ledger.loads("MARK without claims", 3, 5, Wire.code(0, Wire.mark(0), Wire.HALT), 99);
    Ledger.loads("MARK of the greatest", 3, 5, Wire.code(1, Wire.mark(Wire.MOST), Wire.HALT), 16, 99);
    byte[] last = Wire.join(Wire.head(2, 1000), Wire.mark(999), Wire.HALT, Wire.times(1000, 16));
    Ledger.loads("MARK of the last one of 1000", 7, last.length, last, 99);
    Ledger.sentence("Part 5", "3 for each in order: the last one is JMP, HALT or TRAP");
    for (int op = 0; op < 16; op++) {
      boolean well = op == 8 || op == 13 || op == 14;
      byte[] opening = Wire.join(Wire.code(1, Wire.mark(0), Wire.ins(op, 0, 0, someN(op))), 16);
      Ledger.loads("op " + op, well ? 7 : 3, well ? opening.length : 12, opening, 99);
    }
    Ledger.loads("alone", 3, 5, Wire.code(0, Wire.li(0, 0)), 99);
    Ledger.sentence("Part 5", "When all instructions are there, 3 for each in order");
    Ledger.loads("the first of three", 3, 5, Wire.code(0, Wire.jmp(9), Wire.mark(9), Wire.li(0, 0)));
    Ledger.loads("the second of three", 3, 12, Wire.code(0, Wire.li(0, 0), Wire.mark(9), Wire.li(0, 0)));
    Ledger.loads("what is seen as bytes come goes first", 3, 12, Wire.code(0, Wire.jmp(9), Wire.li(8, 0)));
    Ledger.loads("a CUT goes first", 1, 12, Wire.head(2, 0), Wire.jmp(9));
    Ledger.loads("it goes ahead of claims", 3, 5, Wire.code(1, Wire.jmp(9), Wire.HALT));
  }

  /** MARK and HALT with one claim, which begins at this place. */
  private static final byte[] MARKED = Wire.code(1, Wire.mark(0), Wire.HALT);
  private static final int CLAIM = MARKED.length;

  private static void claims() {
    Ledger.sentence("Part 5", "Claims: 4 (place of the tag): no tag of what is wanted");
    for (int tag = 0; tag < 256; tag++) {
      boolean formula = tag >= 16 && tag <= 24;
      if (!formula) {
        Ledger.loads("formula " + tag, 4, CLAIM, MARKED, tag, 0, 0, 0, 0, 0, 0, 0, 0, 0);
        Ledger.loads("formula in a formula " + tag, 4, CLAIM + 2, MARKED, 17, 16, tag, 0, 0, 0, 0, 0, 0);
      }
      if (tag < 1 || tag > 6) {
        Ledger.loads("left term " + tag, 4, CLAIM + 1, MARKED, 20, tag, 0, 0, 0, 0, 0, 0, 0, 0, 0);
        Ledger.loads("right term " + tag, 4, CLAIM + 3, MARKED, 24, 6, 0, tag, 0, 0, 0, 0, 0, 0, 0);
        Ledger.loads("term in a term " + tag, 4, CLAIM + 4, MARKED, 22, 3, 6, 0, tag, 0, 0, 0, 0, 0, 0, 0);
      }
    }
    Ledger.sentence("Part 5", "4 (place of the tag): a register above 7");
    byte[] shown = {37};
    for (int i = 0; i < 8; i++) {
      Ledger.loads("register " + i, 0, -1, MARKED, Wire.equal(Wire.reg(i), Wire.reg(i)), shown,
          Wire.PART_OF_TRUE);
    }
    for (int i : new int[] {8, 9, 128, 255}) {
      Ledger.loads("register " + i, 4, CLAIM + 1, MARKED, Wire.equal(Wire.reg(i), Wire.reg(0)), shown);
      Ledger.loads("register " + i, 4, CLAIM + 3, MARKED, Wire.equal(Wire.reg(0), Wire.reg(i)), shown);
    }
    Ledger.sentence("Part 5", "4 (place of the tag): a variable that no binder binds");
    for (int binders = 0; binders < 4; binders++) {
      for (int i = 0; i < 5; i++) {
        byte[] claim = Wire.all(binders, Wire.equal(Wire.var(i), Wire.var(i)));
        Ledger.loads(i + " within " + binders, i < binders ? 0 : 4, i < binders ? -1 : CLAIM + binders + 1,
            MARKED, claim, Wire.times(binders, 35), 37, Wire.PART_OF_TRUE);
      }
    }
    Ledger.loads("255 within one", 4, CLAIM + 2, MARKED, Wire.all(Wire.equal(Wire.var(255), ZERO)));
    Ledger.loads("behind its ALL", 4, CLAIM + 4, MARKED, Wire.and(Wire.all(Wire.TRUE), Wire.equal(Wire.var(0),
        ZERO)));
    Ledger.sentence("Part 5", "Claims, each a formula: all of them are read, whether a MARK has them or not");
    Ledger.loads("the second one", 4, CLAIM + 1, Wire.code(2, Wire.mark(0), Wire.HALT), 16, 99);
    Ledger.loads("of no MARK", 4, 12, Wire.code(1, Wire.HALT), 32, 32);
    Ledger.loads("the first of two", 4, CLAIM, Wire.code(2, Wire.mark(0), Wire.HALT), 99, 99);
  }

  private static void depths() {
    Ledger.sentence("Part 5",
        "5 DEEP (place of the tag): more than 40 tags within one another (of one claim)");
    Ledger.loads("40", 0, -1, MARKED, Wire.times(39, 19), 16, Wire.times(39, 35), 32, Wire.PART_OF_TRUE);
    Ledger.loads("41", 5, CLAIM + 40, MARKED, Wire.times(40, 19), 16);
    byte[] right = Wire.times(39, 17, 16);
    byte[] rightShown = Wire.times(39, 33, 32);
    Ledger.loads("40 on the right", 0, -1, MARKED, right, 16, rightShown, 32, Wire.PART_OF_TRUE);
    Ledger.loads("41 on the right", 5, CLAIM + 79, MARKED, right, 17, 16, 16);
    byte[] left = Wire.join(Wire.times(39, 18), 16, Wire.times(39, 16));
    Ledger.loads("40 on the left", 0, -1, MARKED, left, 34, 32, Wire.PART_OF_TRUE);
    Ledger.loads("41 on the left", 5, CLAIM + 40, MARKED, Wire.times(40, 18), 16, Wire.times(40, 16));
    byte[] terms = Wire.join(Wire.times(38, 2), ZERO, Wire.times(38, ZERO));
    Ledger.loads("40 with terms", 0, -1, MARKED, 22, terms, terms, 37, Wire.PART_OF_TRUE);
    Ledger.loads("41 with terms", 5, CLAIM + 40, MARKED, 22, 2, terms);
    Ledger.loads("40 with terms on the right", 8, CLAIM + 6 + 38 * 6 + 5, MARKED, 22, ZERO, Wire.times(38, 4,
        ZERO), ZERO, 37);
    Ledger.loads("41 with terms on the right", 5, CLAIM + 6 + 38 * 6 + 1, MARKED, 22, ZERO, Wire.times(39, 4,
        ZERO), ZERO);
    Ledger.loads("a register is a tag, too", 5, CLAIM + 40, MARKED, Wire.times(39, 19), 22, 6, 0, 6, 0);
    Ledger.loads("and so is a variable", 5, CLAIM + 40, MARKED, Wire.times(39, 19), 22, 5, 0, 5, 0);
    Ledger.loads("they are counted anew for each claim", 0, -1, Wire.code(2, Wire.mark(0), Wire.HALT),
        Wire.times(39, 19), 16, Wire.times(39, 19), 16, Wire.times(39, 35), 32, Wire.PART_OF_TRUE);
    Ledger.sentence("Part 5", "5 DEEP (looked at ahead of 4, 7 and 8)");
    Ledger.loads("no formula at 41", 5, CLAIM + 40, MARKED, Wire.times(40, 19), 99);
    Ledger.loads("no term at 41", 5, CLAIM + 40, MARKED, 22, Wire.times(39, 2), 99);
    Ledger.loads("no register at 41", 5, CLAIM + 40, MARKED, 22, Wire.times(39, 2), 6, 9);
    Ledger.loads("but a CUT goes first", 1, CLAIM + 40, MARKED, Wire.times(40, 19));
    Ledger.loads("at 40 it is 4", 4, CLAIM + 39, MARKED, Wire.times(39, 19), 99);
  }

  private static void derivationDepths() {
    Ledger.sentence("Part 5",
        "5 DEEP: more than 40 tags within one another (of one term or formula in a derivation)");
    byte[] forty = Wire.join(Wire.times(39, 3), ZERO, Wire.times(39, ZERO));
    Ledger.fails("a term of 40", 8, 1 + forty.length, Wire.TRUE, 52, forty, 36);
    Ledger.fails("a term of 41", 5, 1 + 40, Wire.TRUE, 52, 3, forty, ZERO, 36);
    Ledger.fails("a second term of 40", 7, 1 + 5 + forty.length, Wire.TRUE, 53, ZERO, forty, 99);
    Ledger.fails("a second term of 41", 5, 1 + 5 + 40, Wire.TRUE, 53, ZERO, 3, forty, ZERO, 99);
    Ledger.fails("a formula of 40", 7, 1 + 40 + 10 + 1, Wire.all(39, Wire.TRUE), 38, Wire.times(39, 19), 16,
        ZERO, ZERO, 37, 99);
    Ledger.fails("a formula of 41", 5, 1 + 40, Wire.all(39, Wire.TRUE), 38, Wire.times(40, 19), 16, ZERO,
        ZERO);
    Ledger.fails("what is within a derivation is not deeper", 8, 2 + forty.length, Wire.then(Wire.TRUE,
        Wire.TRUE), 34, 52, forty, 36);
    Ledger.fails("no term at 41 is 5", 5, 1 + 40, Wire.TRUE, 52, Wire.times(40, 3), 99);
    Ledger.fails("no term at 40 is 7", 7, 1 + 39, Wire.TRUE, 52, Wire.times(39, 3), 99);
    Ledger.fails("no formula at 41 is 5", 5, 1 + 40, Wire.TRUE, 38, Wire.times(40, 19), 99);
    Ledger.sentence("Part 5", "5 DEEP: more than 160 of derivations");
    byte[] open = Wire.join(53, ZERO, ZERO);
    byte[] open159 = Wire.times(159, open);
    Ledger.shows("160", Wire.TRUE, open159, 32, Wire.times(159, 32));
    Ledger.fails("161", 5, 160 * 11, Wire.TRUE, open159, open, 32);
    Ledger.fails("161 in the last derivation", 5, 159 * 12 + 11, Wire.TRUE, Wire.times(160, open, 32), 32);
    Ledger.shows("160 in the last derivation", Wire.TRUE, Wire.times(159, open, 32), 32);
    Ledger.fails("none at 161 is 5", 5, 160 * 11, Wire.TRUE, open159, open, 99);
    Ledger.fails("W is not so at 161 is 5", 5, 160 * 11, Wire.TRUE, open159, open, 36);
    Ledger.fails("none at 160 is 7", 7, 159 * 11, Wire.TRUE, open159, 99);
    Ledger.fails("W is not so at 160 is 8", 8, 159 * 11, Wire.TRUE, open159, 36);
    Ledger.loads("a CUT at 161 is 1", 1, CLAIM + 1 + 160 * 11, MARKED, 16, open159, open);
    // A hypothesis of 158 ANDs: 34, 158 LEFTs and 64 are 160 tags within one another.
    byte[] deepAnd = Wire.join(Wire.times(30, 17), 16, Wire.times(30, 16));
    Ledger.shows("those that tell, 32 tags", Wire.then(deepAnd, Wire.TRUE), 34, Wire.times(30, 65), 64, 0);
    Ledger.fails("those that tell count, too", 5, 160, Wire.then(deepAnd, Wire.TRUE), 34, Wire.times(159, 65),
        64, 0);
    Ledger.fails("one less", 8, 159 - 31, Wire.then(deepAnd, Wire.TRUE), 34, Wire.times(158, 65), 64, 0);
    Ledger.loads("PART 1 has 160 of its own", 0, -1, MARKED, 16, open159, 32, Wire.times(159, 32),
        Wire.times(8, 35), 34, Wire.times(150, open), 32, Wire.times(150, 32));
  }

  private static void rooms() {
    Ledger.sentence("Part 5", "6 ROOM (place 0): a register would have a term of more than 200 NODES");
    // A number and 99 times + and a number: 199. One more: 201; none has 200.
    Ledger.loads("199 by ADDI", 0, -1, Wire.head(100, 0), Wire.times(99, Wire.addi(3, 3, 1)), Wire.HALT, 32);
    Ledger.loads("201 by ADDI", 6, 0, Wire.head(101, 0), Wire.times(100, Wire.addi(3, 3, 1)), Wire.HALT, 32);
    for (int op = 2; op <= 4; op++) {
      // 1, 3, 7, .., 127 nodes; with one of 63 and one of 7: 199, then one of 1: 201.
      byte[][] doubled = new byte[6][];
      Arrays.fill(doubled, Wire.ins(op, 1, 1, 1));
      byte[] seven = Wire.join(Wire.ins(op, 2, 2, 2), Wire.ins(op, 2, 2, 2));
      byte[] both = Wire.join(doubled, seven, Wire.ins(op, 3, 1, 1));
      // Registers: 1 has 127, 2 has 7; 3 would have 255.
      Ledger.loads("255 by op " + op, 6, 0, Wire.head(10, 0), both, Wire.HALT, 32);
      byte[] first63 = Wire.join(Wire.times(5, Wire.ins(op, 4, 4, 4)));
      byte[] sum191 = Wire.join(doubled, first63, Wire.ins(op, 5, 1, 4));
      byte[] sum199 = Wire.join(sum191, seven, Wire.ins(op, 5, 5, 2));
      Ledger.loads("199 by op " + op, 0, -1, Wire.head(16, 0), sum199, Wire.HALT, 32);
      Ledger.loads("201 by op " + op, 6, 0, Wire.head(17, 0), sum199, Wire.ins(op, 6, 5, 0), Wire.HALT, 32);
    }
    Ledger.loads("it is never used", 6, 0, Wire.head(102, 0), Wire.times(100, Wire.addi(3, 3, 1)), Wire.li(3,
        0), Wire.HALT, 32);
    Ledger.loads("LI makes it small again", 0, -1, Wire.head(192, 0), Wire.times(95, Wire.addi(3, 3, 1)),
        Wire.li(3, 0), Wire.times(95, Wire.addi(3, 3, 1)), Wire.HALT, 32);
    Ledger.loads("a PATH of another PART begins anew", 0, -1, Wire.head(196, 1), Wire.times(97, Wire.addi(3,
        3, 1)), Wire.mark(0), Wire.times(97, Wire.addi(3, 3, 1)), Wire.HALT, 16, 32, Wire.PART_OF_TRUE);
    Ledger.loads("in a PART of a MARK", 6, 0, Wire.head(102, 1), Wire.mark(0), Wire.times(100, Wire.addi(3, 3,
        1)), Wire.HALT, 16, 32, Wire.PART_OF_TRUE);
    Ledger.loads("where no PATH comes to", 0, -1, Wire.head(122, 0), Wire.HALT, Wire.times(120, Wire.addi(3,
        3, 1)), Wire.HALT, 32);
    Ledger.loads("what is read is a variable", 0, -1, Wire.head(191, 0), Wire.times(94, Wire.addi(3, 3, 1)),
        Wire.ld(3, 0, 0), Wire.times(95, Wire.addi(3, 3, 1)), Wire.HALT, 33, 33, 36, 36, 35, 32);
  }

  /** A claim of so many NODES that is not deep. */
  private static byte[] wide(int size) {
    if (size == 1) {
      return Wire.TRUE;
    }
    if (size % 2 == 0) {
      return Wire.all(wide(size - 1));
    }
    int half = (size - 1) / 2;
    int left = half % 2 == 1 ? half : half + 1;
    return Wire.and(wide(left), wide(size - 1 - left));
  }

  /** PART 0: s. PART 1: 8 ALL, IF-THEN, s; j times JEQ 0 0: AND, 2 IF-THEN, 2 of 3, s; TRUE. */
  private static byte[] filling(int jumps, int size) {
    return Wire.join(Wire.head(jumps + 2, 1), Wire.mark(0), Wire.times(jumps, Wire.ins(11, 0, 0, 0)),
        Wire.HALT, wide(size));
  }

  private static void obligationRoom() {
    Ledger.sentence("Part 5", "6 ROOM (place 0): or the OBLIGATION more than 60000");
    exactly(59999);
    exactly(60000);
    exactly(60001);
    exactly(60002);
    Ledger.sentence("Part 5", "6 ROOM is looked at behind the claims and ahead of the derivations");
    byte[] burst = Wire.join(Wire.head(102, 1), Wire.times(101, Wire.addi(3, 3, 1)), Wire.HALT);
    Ledger.loads("no derivation at all", 6, 0, burst, 16);
    Ledger.loads("a claim that is none", 4, burst.length, burst, 99);
    Ledger.loads("a claim that is cut", 1, burst.length, burst);
    Ledger.loads("a derivation that is none", 6, 0, burst, 16, 99);
    CodeHarbour y = Ledger.loads("its code is held", 6, 0, burst, 16);
    Ledger.due("told(0)", y.told(0), 102);
    Ledger.due("told(1)", y.told(1), 0);
    Ledger.due("watch()", y.watch(200), 1);
  }

  /** All in all s + 9 + s + j * (9 + s) + 1 = 10 + 9 * j + (j + 2) * s. */
  private static void exactly(int want) {
    int found = 0;
    for (int j = 3; j < 300 && found < 2; j++) {
      int rest = want - 10 - 9 * j;
      if (rest % (j + 2) == 0) {
        byte[] opening = filling(j, rest / (j + 2));
        boolean well = want <= 60000;
        CodeHarbour x = Ledger.loads(want + " NODES", well ? 7 : 6, well ? opening.length : 0, opening, 99);
        Ledger.due("told(1)", x.told(1), well ? want : 0);
        found++;
      }
    }
    Ledger.due("codes of " + want + " NODES that were asked", found > 0 ? 1 : 0, 1);
  }

  private static void derivations() {
    Ledger.sentence("Part 5", "7 (place of the tag): none of what is wanted");
    for (int tag = 0; tag < 256; tag++) {
      boolean shows = tag >= 32 && tag <= 56;
      boolean tells = tag >= 64 && tag <= 68;
      if (!shows && !tells) {
        Ledger.fails("a derivation " + tag, 7, 0, Wire.TRUE, tag);
        Ledger.fails("within another one " + tag, 7, 2, Wire.and(Wire.TRUE, Wire.TRUE), 33, 32, tag);
      }
      if (!tells) {
        // Behind 65 to 68 one that tells is wanted.
        byte[] w = Wire.then(Wire.and(Wire.TRUE, Wire.TRUE), Wire.TRUE);
        for (int outer : new int[] {65, 66, 67}) {
          Ledger.fails("what " + outer + " stands on: " + tag, 7, 2, w, 34, outer, tag, 0, 0, 0);
        }
        Ledger.fails("what 68 stands on: " + tag, 7, 2 + 5, w, 34, 68, ZERO, tag, 0, 0, 0);
      }
      if (tag < 1 || tag > 5) {
        Ledger.fails("a term " + tag, 7, 1, Wire.TRUE, 52, tag, 0, 0, 0, 0);
        Ledger.fails("a second term " + tag, 7, 6, Wire.TRUE, 53, ZERO, tag, 0, 0, 0, 0);
        Ledger.fails("a term in a formula " + tag, 7, 2, Wire.TRUE, 38, 20, tag, 0, 0, 0, 0);
      }
      if (tag < 16 || tag > 24) {
        Ledger.fails("a formula " + tag, 7, 1, Wire.TRUE, 38, tag, 0, 0, 0, 0);
      }
    }
    Ledger.sentence("Part 5", "6 a register (1; in claims alone)");
    Ledger.fails("in a derivation", 7, 1, Wire.TRUE, 52, Wire.reg(0), 99);
    Ledger.fails("in a formula of a derivation", 7, 2, Wire.TRUE, 38, Wire.equal(Wire.reg(0), ZERO), ZERO,
        ZERO);
    Ledger.sentence("Part 5",
        "7: a variable that no binder binds, or that is a hypothesis; a hypothesis that is none");
    byte[] w = Wire.all(Wire.then(Wire.TRUE, Wire.TRUE));
    Ledger.fails("the variable", 7, 2 + 3, w, 35, 34, 52, Wire.var(1), 99);
    Ledger.fails("a hypothesis", 7, 2 + 1, w, 35, 34, 52, Wire.var(0), 99);
    Ledger.fails("no binder", 7, 2 + 1, w, 35, 34, 52, Wire.var(2), 99);
    Ledger.fails("far off", 7, 2 + 1, w, 35, 34, 52, Wire.var(255), 99);
    Ledger.fails("within a term", 7, 2 + 1 + 1 + 5, w, 35, 34, 52, Wire.plus(ZERO, Wire.var(2)), 99);
    Ledger.shows("the hypothesis", w, 35, 34, 64, 0);
    Ledger.fails("it is a variable", 7, 2, w, 35, 34, 64, 1);
    Ledger.fails("it is none", 7, 2, w, 35, 34, 64, 2);
    Ledger.fails("none far off", 7, 2, w, 35, 34, 64, 255);
    Ledger.fails("none at all", 7, 0, Wire.TRUE, 64, 0);
    // In the formula of a PUT its own binder is 0, and those of an ALL in it come ahead of it.
    Ledger.fails("PUT's binder", 7, 2 + 1 + 5 + 2, w, 35, 34, 38, Wire.equal(Wire.var(0), Wire.var(2)),
        Wire.var(1), Wire.var(0));
    Ledger.fails("a hypothesis in its formula", 7, 2 + 2, w, 35, 34, 38, Wire.equal(Wire.var(1), ZERO), ZERO,
        ZERO);
    Ledger.fails("none in its formula", 7, 2 + 2, w, 35, 34, 38, Wire.equal(Wire.var(3), ZERO), ZERO, ZERO);
    Ledger.fails("within its ALL", 7, 2 + 3, w, 35, 34, 38, Wire.all(Wire.equal(Wire.var(2), ZERO)), ZERO,
        ZERO);
  }

  private static void shown() {
    Ledger.sentence("Part 5",
        "8 SHOWN (place of the tag): behind its terms and formulas W is not as it must be");
    Ledger.fails("CHAIN of TRUE", 8, 0, Wire.TRUE, 40, ZERO, 99);
    Ledger.fails("its term goes first", 7, 1, Wire.TRUE, 40, 99);
    Ledger.fails("its second term goes first", 7, 6, Wire.TRUE, 56, ZERO, 99);
    Ledger.loads("its CUT goes first", 1, CLAIM + 1 + 1, MARKED, 16, 40);
    Ledger.loads("its last byte's CUT goes first", 1, CLAIM + 1 + 5, MARKED, 16, 40, 1, 0, 0, 0);
    Ledger.loads("W goes ahead of its derivations' CUT", 8, CLAIM + 1, MARKED, 16, 40, ZERO);
    Ledger.fails("PUT's formula goes first", 7, 1, Wire.TRUE, 38, 99);
    Ledger.fails("PUT's terms go first", 7, 2, Wire.TRUE, 38, Wire.TRUE, 99);
    Ledger.fails("PUT's second term goes first", 7, 1 + 8 + 5, Wire.TRUE, 38, Wire.equal(Wire.var(0), ZERO),
        ZERO, 99);
    Ledger.fails("the tag further in", 8, 2, Wire.and(Wire.TRUE, Wire.TRUE), 33, 32, 33);
    Ledger.sentence("Part 5", "8 SHOWN: behind its first derivation (65 to 68) that tells no such formula");
    byte[] none = Wire.then(Wire.TRUE, Wire.TRUE);
    for (int tag = 65; tag <= 68; tag++) {
      byte[] read = tag == 68 ? ZERO : NOTHING;
      Ledger.fails(tag + " of TRUE", 8, 1, none, 34, tag, read, 64, 0, 99);
      Ledger.fails(tag + ", its first derivation goes first", 7, 2 + read.length, none, 34, tag, read, 64, 9);
      Ledger.loads(tag + ", its CUT goes first", 1, CLAIM + none.length + 3 + read.length, MARKED, none, 34,
          tag, read, 64);
      Ledger.fails(tag + " of one that tells, further in", 8, 2, none, 34, 65, tag, read, 64, 0, 99);
    }
    Ledger.fails("THEN's second one comes behind it", 8, 1, none, 34, 67, 64, 0, 64, 9);
    Ledger.sentence("Part 5", "8 SHOWN: behind all of it (64 to 68) it tells another one than W");
    byte[] one = Wire.equal(ZERO, ZERO);
    Ledger.fails("64", 8, 1, Wire.then(one, Wire.TRUE), 34, 64, 0);
    Ledger.fails("65", 8, 1, Wire.then(Wire.and(one, Wire.TRUE), Wire.TRUE), 34, 65, 64, 0);
    Ledger.fails("66", 8, 1, Wire.then(Wire.and(Wire.TRUE, one), Wire.TRUE), 34, 66, 64, 0);
    Ledger.fails("67", 8, 1, Wire.then(Wire.then(Wire.TRUE, one), Wire.TRUE), 34, 67, 64, 0, 32);
    Ledger.fails("67, its second one goes first", 8, 4, Wire.then(Wire.then(Wire.TRUE, one), Wire.TRUE), 34,
        67, 64, 0, 36);
    Ledger.fails("68", 8, 1, Wire.then(Wire.all(one), Wire.TRUE), 34, 68, ZERO, 64, 0);
    Ledger.fails("what tells within another one may be anything", 8, 1, Wire.then(Wire.and(Wire.and(one, one),
        Wire.TRUE), Wire.TRUE), 34, 65, 65, 64, 0);
    Ledger.shows("as W", Wire.then(Wire.and(Wire.and(one, one), Wire.TRUE), one), 34, 66, 65, 64, 0);
  }

  private static void held() {
    Ledger.sentence("Part 5", "FAULTS of a package, the first in this order");
    byte[] code = Wire.code(1, Wire.mark(0), Wire.HALT);
    Ledger.loads("a claim goes ahead of a derivation", 4, CLAIM, code, 99, 99);
    Ledger.loads("PART 0 goes ahead of PART 1", 8, CLAIM + 1, code, 16, 36, 99);
    Ledger.loads("PART 1 comes behind it", 7, CLAIM + 2, code, 16, 32, 99);
    // An object that has seen faults of all kinds takes a whole package as a new one does.
    CodeHarbour y = new CodeHarbour();
    byte[][] faulty = {{}, {81}, Wire.code(0, Wire.li(8, 0)), Wire.join(code, 99), Wire.join(code,
        Wire.times(41, 19)), Wire.join(Wire.head(102, 0), Wire.times(101, Wire.addi(3, 3, 1)), Wire.HALT),
        Wire.join(code, 16, 99), Wire.join(code, 16, 36), Wire.join(code, 16, 32, Wire.PART_OF_TRUE, 7)};
    int[] places = {0, 0, 5, CLAIM, CLAIM + 40, 0, CLAIM + 1, CLAIM + 1, CLAIM + 12};
    for (int i = 0; i < faulty.length; i++) {
      Ledger.loads(y, "fault " + (i + 1), i + 1, places[i], faulty[i]);
      Ledger.loads(y, "none behind it", 0, -1, Wire.showing(Wire.TRUE, 32));
    }
  }

  public static void main(String[] args) {
    cuts();
    heads();
    codes();
    jumps();
    claims();
    depths();
    derivationDepths();
    rooms();
    obligationRoom();
    derivations();
    shown();
    held();
    Ledger.close();
  }
}
