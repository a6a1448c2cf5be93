import java.io.ByteArrayOutputStream;
import java.util.ArrayList;
import java.util.Arrays;
import java.util.List;
import java.util.Random;

/** Makes packages: their bytes, and formulas with derivations of them. */
final class Forge {
  /** A formula and the bytes of its derivation. */
  record Shown(Model.Node formula, byte[] derivation) {
  }

  final Random random;

  Forge(Random random) {
    this.random = random;
  }

  boolean oneIn(int n) {
    return random.nextInt(n) == 0;
  }

  // ---- bytes

  static byte[] bytes(Object... parts) {
    ByteArrayOutputStream out = new ByteArrayOutputStream();
    for (Object part : parts) {
      if (part instanceof Integer i) {
        out.write(i);
      } else if (part instanceof byte[] b) {
        out.writeBytes(b);
      } else if (part instanceof Model.Node n) {
        write(n, out);
      } else {
        throw new IllegalArgumentException("no bytes: " + part);
      }
    }
    return out.toByteArray();
  }

  static byte[] four(int v) {
    return bytes(v >>> 24, v >>> 16, v >>> 8, v);
  }

  static void write(Model.Node n, ByteArrayOutputStream out) {
    out.write(n.op());
    if (n.op() == 1) {
      out.writeBytes(four(n.value()));
    } else if (n.op() == 5 || n.op() == 6) {
      out.write(n.value());
    }
    if (n.l() != null) {
      write(n.l(), out);
    }
    if (n.r() != null) {
      write(n.r(), out);
    }
  }

  static byte[] ins(int op, int a, int b, int n) {
    return bytes(op, a, b, four(n));
  }

  /** The head, the instructions and the claims. */
  static byte[] opening(List<byte[]> code, List<Model.Node> claims) {
    ByteArrayOutputStream out = new ByteArrayOutputStream();
    out.writeBytes(bytes(80, code.size() >> 8, code.size(), claims.size() >> 8, claims.size()));
    code.forEach(out::writeBytes);
    claims.forEach(c -> write(c, out));
    return out.toByteArray();
  }

  /** A package whose PART 0 is one formula: its code is a MARK and a HALT. */
  static byte[] packed(Model.Node formula, byte[] derivation) {
    byte[] opening = opening(List.of(ins(15, 0, 0, 0), ins(13, 0, 0, 0)), List.of(formula));
    return bytes(opening, derivation, any(8), 34, 32);
  }

  static byte[] any(int many) {
    byte[] b = new byte[many];
    Arrays.fill(b, (byte) 35);
    return b;
  }

  // ---- terms and formulas within binders: null for a variable, a formula for a hypothesis

  int number() {
    int[] usual = {0, 1, 2, 3, -1, 5, 10, 255, 256, 2147483647, -2147483648, 2147483646};
    return oneIn(3) ? random.nextInt(20) - 5 : usual[random.nextInt(usual.length)];
  }

  Model.Node term(List<Model.Node> around, int depth) {
    List<Integer> variables = new ArrayList<>();
    for (int i = 0; i < around.size(); i++) {
      if (around.get(around.size() - 1 - i) == null) {
        variables.add(i);
      }
    }
    if (depth > 0 && oneIn(2)) {
      return Model.two(2 + random.nextInt(3), term(around, depth - 1), term(around, depth - 1));
    }
    if (!variables.isEmpty() && oneIn(2)) {
      return Model.var(variables.get(random.nextInt(variables.size())));
    }
    return Model.num(number());
  }

  static List<Model.Node> and(List<Model.Node> around, Model.Node one) {
    List<Model.Node> more = new ArrayList<>(around);
    more.add(one);
    return more;
  }

  Model.Node formula(List<Model.Node> around, int depth) {
    if (depth > 0) {
      switch (random.nextInt(6)) {
        case 0:
          return Model.two(17, formula(around, depth - 1), formula(around, depth - 1));
        case 1:
          return Model.two(18, formula(around, depth - 1), formula(around, depth - 1));
        case 2:
          return Model.all(formula(and(around, null), depth - 1));
        default:
          break;
      }
    }
    return oneIn(6) ? Model.TRUE
        : Model.two(20 + random.nextInt(5), term(around, 2), term(around, 2));
  }

  // ---- derivations

  Shown shown(List<Model.Node> around, int depth) {
    int choice = random.nextInt(depth > 0 ? 16 : 5);
    switch (choice) {
      case 0:
        return new Shown(Model.TRUE, bytes(32));
      case 1:
        return reckoned();
      case 2:
        return equal(around);
      case 3:
      case 4:
        return schema(around);
      case 5:
      case 6: {
        Shown p = shown(around, depth - 1);
        Shown q = shown(around, depth - 1);
        return new Shown(Model.two(17, p.formula, q.formula),
            bytes(33, p.derivation, q.derivation));
      }
      case 7:
      case 8: {
        Model.Node a = formula(around, 2);
        Shown p = shown(and(around, a), depth - 1);
        return new Shown(Model.two(18, a, Model.shift(p.formula, -1, 0)),
            bytes(34, p.derivation));
      }
      case 9:
      case 10: {
        Shown p = shown(and(around, null), depth - 1);
        return new Shown(Model.all(p.formula), bytes(35, p.derivation));
      }
      case 11:
        return put(around, depth);
      case 12:
        return cases(around, depth);
      case 13:
        return then(around, depth);
      default:
        return told(around);
    }
  }

  Shown reckoned() {
    for (int i = 0; i < 50; i++) {
      Model.Node w = Model.two(20 + random.nextInt(5), term(List.of(), 3), term(List.of(), 3));
      if (Model.holds(w)) {
        return new Shown(w, bytes(36));
      }
    }
    return new Shown(Model.TRUE, bytes(32));
  }

  Shown equal(List<Model.Node> around) {
    Model.Node x = term(around, 2);
    Model.Node y = term(around, 2);
    Model.Node z = term(around, 2);
    return switch (random.nextInt(5)) {
      case 0 -> new Shown(Model.two(22, x, x), bytes(37));
      case 1 -> new Shown(Model.two(21, x, x), bytes(55));
      case 2 -> new Shown(Model.two(22, Model.two(2, Model.two(2, x, y), z),
          Model.two(2, x, Model.two(2, y, z))), bytes(47));
      case 3 -> new Shown(Model.two(22, Model.two(2, x, y), Model.two(2, y, x)), bytes(48));
      default -> new Shown(Model.two(22, Model.two(2, Model.two(3, x, y), y), x), bytes(49));
    };
  }

  /** A rule of the tags 39 to 56, its premises being hypotheses. */
  Shown schema(List<Model.Node> around) {
    Model.Node x = term(around, 2);
    Model.Node y = term(around, 2);
    Model.Node k = term(around, 2);
    Model.Node t = term(around, 2);
    Model.Node u = term(around, 2);
    Model.Node one = Model.num(1);
    Model.Node xk = Model.two(2, x, k);
    Model.Node yk = Model.two(2, y, k);
    int tag = List.of(39, 40, 41, 42, 43, 44, 45, 46, 50, 51, 52, 54, 56).get(random.nextInt(13));
    return switch (tag) {
      case 39 -> ruled(tag, less(x, y, 21), List.of(), less(x, y, 20));
      case 40 -> ruled(tag, less(x, y, 21), List.of(t), less(x, t, 21), less(t, y, 21));
      case 41 -> ruled(tag, less(x, y, 20), List.of(t), less(x, t, 20), less(t, y, 21));
      case 42 -> ruled(tag, less(x, y, 20), List.of(t), less(x, t, 21), less(t, y, 20));
      case 43 -> ruled(tag, less(Model.two(2, x, one), y, 21), List.of(), less(x, y, 20));
      case 44 -> ruled(tag, less(x, Model.two(2, x, one), 21), List.of(t), less(x, t, 20));
      case 45 -> ruled(tag, less(xk, yk, 21), List.of(t), less(x, y, 21), less(y, t, 21),
          less(x, k, 24), less(t, k, 24));
      case 46 -> ruled(tag, less(yk, xk, 20), List.of(t), less(t, y, 21), less(y, x, 20),
          less(t, k, 24), less(x, k, 24));
      case 50 -> ruled(tag, less(x, y, 23), List.of(), less(x, y, 20));
      case 51 -> ruled(tag, less(x, y, 20), List.of(), less(x, y, 21), less(x, y, 23));
      case 52 -> ruled(tag, formula(around, 2), List.of(t), less(t, t, 20));
      case 54 -> oneIn(2) ? ruled(tag, less(x, y, 22), List.of(), less(y, x, 22))
          : ruled(tag, less(x, y, 23), List.of(), less(y, x, 23));
      default -> ruled(tag, less(y, k, 24), List.of(t, u), less(t, y, 21), less(y, u, 21),
          less(t, k, 24), less(u, k, 24));
    };
  }

  private static Model.Node less(Model.Node x, Model.Node y, int op) {
    return Model.two(op, x, y);
  }

  private static Shown ruled(int tag, Model.Node w, List<Model.Node> terms, Model.Node... premises) {
    int many = premises.length;
    ByteArrayOutputStream out = new ByteArrayOutputStream();
    Model.Node whole = w;
    for (int i = many - 1; i >= 0; i--) {
      whole = Model.two(18, premises[i], whole);
    }
    for (int i = 0; i < many; i++) {
      out.write(34);
    }
    out.write(tag);
    for (Model.Node t : terms) {
      write(Model.shift(t, many, 0), out);
    }
    for (int i = 0; i < many; i++) {
      out.write(64);
      out.write(many - 1 - i);
    }
    return new Shown(whole, out.toByteArray());
  }

  /** Some of the places of a term in a formula become its outermost variable. */
  Model.Node abstracted(Model.Node f, Model.Node x, int within) {
    if (f == null) {
      return null;
    }
    if (f.op() < 16 && f.same(Model.shift(x, within, 0)) && !oneIn(4)) {
      return Model.var(within);
    }
    if (f.op() == 5) {
      return f.value() >= within ? Model.var(f.value() + 1) : f;
    }
    if (f.l() == null) {
      return f;
    }
    int inner = f.op() == 19 ? within + 1 : within;
    return new Model.Node(f.op(), f.value(), abstracted(f.l(), x, inner),
        abstracted(f.r(), x, inner));
  }

  Model.Node someTerm(Model.Node f, int within) {
    if (f.l() == null) {
      return null;
    }
    Model.Node part = oneIn(2) || f.r() == null ? f.l() : f.r();
    if (part.op() < 16 && oneIn(2)) {
      return part;
    }
    return someTerm(part, within);
  }

  Shown put(List<Model.Node> around, int depth) {
    Shown q = shown(around, depth - 1);
    Model.Node x = someTerm(q.formula, 0);
    boolean closed = x != null && Model.value(x) != null;
    if (!closed) {
      x = term(around, 1);
    }
    Model.Node y = closed && oneIn(2) ? Model.num(Model.value(x)) : x;
    Model.Node f = abstracted(q.formula, x, 0);
    int how = y == x ? 37 : 36;
    return new Shown(Model.put(f, y), bytes(38, f, x, y, how, q.derivation));
  }

  Shown cases(List<Model.Node> around, int depth) {
    Model.Node t = term(around, 2);
    Model.Node u = term(around, 2);
    Shown p = shown(and(around, Model.two(20, t, u)), depth - 1);
    return new Shown(Model.shift(p.formula, -1, 0), bytes(53, t, u, p.derivation, p.derivation));
  }

  /** (A IF-THEN B) IF-THEN B, or with ALL in front of the hypothesis. */
  Shown then(List<Model.Node> around, int depth) {
    Model.Node b = formula(around, 2);
    Model.Node t = term(around, 2);
    Model.Node marker = Model.two(18, b, Model.TRUE);
    Shown a = shown(and(around, marker), depth - 1);
    Model.Node plainA = Model.shift(a.formula, -1, 0);
    if (oneIn(2)) {
      return new Shown(Model.two(18, Model.two(18, plainA, b), b),
          bytes(34, 67, 64, 0, a.derivation));
    }
    Model.Node within = Model.two(18, abstracted(plainA, t, 0), abstracted(b, t, 0));
    return new Shown(Model.two(18, Model.all(within), b),
        bytes(34, 67, 68, Model.shift(t, 1, 0), 64, 0, a.derivation));
  }

  Shown told(List<Model.Node> around) {
    List<Integer> hypotheses = new ArrayList<>();
    for (int i = 0; i < around.size(); i++) {
      if (around.get(around.size() - 1 - i) != null) {
        hypotheses.add(i);
      }
    }
    if (hypotheses.isEmpty()) {
      return equal(around);
    }
    int i = hypotheses.get(random.nextInt(hypotheses.size()));
    Model.Node f = Model.shift(around.get(around.size() - 1 - i), i + 1, 0);
    byte[] d = bytes(64, i);
    while (!oneIn(4)) {
      if (f.op() == 17) {
        boolean left = oneIn(2);
        d = bytes(left ? 65 : 66, d);
        f = left ? f.l() : f.r();
      } else if (f.op() == 19) {
        Model.Node t = term(around, 2);
        d = bytes(68, t, d);
        f = Model.put(f.l(), t);
      } else if (f.op() == 18 && f.l().op() == 16) {
        d = bytes(67, d, 32);
        f = f.r();
      } else {
        break;
      }
    }
    return new Shown(f, d);
  }

  // ---- what can be shown without a thought

  byte[] plainly(Model.Node w, List<Model.Node> around) {
    // Now and then what is at hand, be it the right one or not.
    if (!around.isEmpty() && oneIn(20)) {
      return bytes(64, random.nextInt(around.size()));
    }
    if (oneIn(12)) {
      return putPlainly(w, around);
    }
    switch (w.op()) {
      case 16:
        return bytes(32);
      case 17:
        return bytes(33, plainly(w.l(), around), plainly(w.r(), around));
      case 18:
        return bytes(34, plainly(Model.shift(w.r(), 1, 0), and(around, w.l())));
      case 19:
        return bytes(35, plainly(w.l(), and(around, null)));
      default:
        break;
    }
    if (Model.holds(w)) {
      return bytes(36);
    }
    for (int i = 0; i < around.size(); i++) {
      Model.Node h = around.get(around.size() - 1 - i);
      byte[] d = h == null ? null : found(Model.shift(h, i + 1, 0), w, bytes(64, i));
      if (d != null) {
        return d;
      }
    }
    return bytes(w.op() == 22 ? 37 : 55);
  }

  /** The whole of W by a PUT of a term for the same, or for a number that it is. */
  private byte[] putPlainly(Model.Node w, List<Model.Node> around) {
    Model.Node y = term(around, 1);
    for (Model.Node part = w; part.l() != null && part.op() != 19;
        part = oneIn(2) ? part.l() : part.r()) {
      y = part.op() < 16 && oneIn(2) ? part : y;
    }
    Model.Node f = abstracted(w, y, 0);
    boolean reckoned = Model.value(y) != null && oneIn(2);
    Model.Node x = reckoned ? Model.two(2, y, Model.num(0)) : y;
    return bytes(38, f, x, y, reckoned ? 36 : 37, plainly(Model.put(f, x), around));
  }

  private static byte[] found(Model.Node h, Model.Node w, byte[] d) {
    if (h.same(w)) {
      return d;
    }
    if (h.op() != 17) {
      return null;
    }
    byte[] left = found(h.l(), w, bytes(65, d));
    return left != null ? left : found(h.r(), w, bytes(66, d));
  }
}
