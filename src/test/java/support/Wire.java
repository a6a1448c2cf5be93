import java.io.ByteArrayOutputStream;
import java.util.Arrays;

/** The bytes of packages, put together by hand: instructions, terms, formulas, derivations. */
final class Wire {
  private Wire() {
  }

  static final int LEAST = -2147483648;
  static final int MOST = 2147483647;

  /** Numbers are bytes; what is of several bytes is taken as it is. */
  static byte[] join(Object... parts) {
    ByteArrayOutputStream out = new ByteArrayOutputStream();
    for (Object part : parts) {
      if (part instanceof Integer i) {
        out.write(i);
      } else if (part instanceof byte[] b) {
        out.writeBytes(b);
      } else if (part instanceof byte[][] many) {
        for (byte[] b : many) {
          out.writeBytes(b);
        }
      } else {
        throw new IllegalArgumentException("no bytes: " + part);
      }
    }
    return out.toByteArray();
  }

  static byte[] times(int many, Object... parts) {
    byte[] one = join(parts);
    byte[] all = new byte[one.length * many];
    for (int i = 0; i < many; i++) {
      System.arraycopy(one, 0, all, i * one.length, one.length);
    }
    return all;
  }

  static byte[] four(int v) {
    return join(v >>> 24, v >>> 16, v >>> 8, v);
  }

  // ---- terms

  static byte[] num(int v) {
    return join(1, four(v));
  }

  static byte[] plus(byte[] x, byte[] y) {
    return join(2, x, y);
  }

  static byte[] minus(byte[] x, byte[] y) {
    return join(3, x, y);
  }

  static byte[] product(byte[] x, byte[] y) {
    return join(4, x, y);
  }

  static byte[] var(int between) {
    return join(5, between);
  }

  static byte[] reg(int which) {
    return join(6, which);
  }

  // ---- formulas

  static final byte[] TRUE = {16};

  static byte[] and(byte[] a, byte[] b) {
    return join(17, a, b);
  }

  static byte[] then(byte[] a, byte[] b) {
    return join(18, a, b);
  }

  static byte[] all(byte[] a) {
    return join(19, a);
  }

  static byte[] all(int many, byte[] a) {
    return join(times(many, 19), a);
  }

  static byte[] less(byte[] x, byte[] y) {
    return join(20, x, y);
  }

  static byte[] atMost(byte[] x, byte[] y) {
    return join(21, x, y);
  }

  static byte[] equal(byte[] x, byte[] y) {
    return join(22, x, y);
  }

  static byte[] unequal(byte[] x, byte[] y) {
    return join(23, x, y);
  }

  static byte[] fits(byte[] x, byte[] y) {
    return join(24, x, y);
  }

  /** How many NODES terms and formulas have that stand one behind the other. */
  static int nodes(byte[] formulas) {
    int many = 0;
    int at = 0;
    while (at < formulas.length) {
      int tag = formulas[at];
      at += tag == 1 ? 5 : tag == 5 || tag == 6 ? 2 : 1;
      many++;
    }
    return many;
  }

  // ---- instructions

  static byte[] ins(int op, int a, int b, int n) {
    return join(op, a, b, four(n));
  }

  static byte[] li(int a, int n) {
    return ins(0, a, 0, n);
  }

  static byte[] mov(int a, int b) {
    return ins(1, a, b, 0);
  }

  static byte[] addi(int a, int b, int n) {
    return ins(5, a, b, n);
  }

  static byte[] ld(int a, int b, int n) {
    return ins(6, a, b, n);
  }

  static byte[] st(int a, int b, int n) {
    return ins(7, a, b, n);
  }

  static byte[] jmp(int n) {
    return ins(8, 0, 0, n);
  }

  static final byte[] HALT = ins(13, 0, 0, 0);

  static byte[] trap(int n) {
    return ins(14, 0, 0, n);
  }

  static byte[] mark(int claim) {
    return ins(15, 0, 0, claim);
  }

  // ---- packages

  static byte[] head(int instructions, int claims) {
    return join(80, instructions >> 8, instructions, claims >> 8, claims);
  }

  /** Head and instructions. */
  static byte[] code(int claims, byte[]... instructions) {
    return join(head(instructions.length, claims), instructions);
  }

  static final byte[] TRUE_SHOWN = {32};

  /** A derivation of a PART whose claim does not matter and whose PATH is TRUE. */
  static final byte[] PART_OF_TRUE = join(times(8, 35), 34, 32);

  private static final byte[] MARK_AND_HALT = code(1, mark(0), HALT);

  /** A package that is to show one formula: its code is a MARK, with that for its claim, and HALT. */
  static byte[] showing(byte[] formula, Object... derivation) {
    return join(MARK_AND_HALT, formula, join(derivation), PART_OF_TRUE);
  }

  /** Where the derivation of that formula begins. */
  static int showingAt(byte[] formula) {
    return MARK_AND_HALT.length + formula.length;
  }

  static byte[] upTo(byte[] bytes, int size) {
    return Arrays.copyOf(bytes, size);
  }
}
