import java.util.ArrayList;
import java.util.Arrays;
import java.util.List;
import java.util.Random;

/** Packages made at random, whole and broken, on the class and on the model. */
public final class RandomPackages {
  private static byte[] broken(byte[] whole, Random random) {
    int at = random.nextInt(whole.length);
    // The derivations stand last; most of what can go wrong is there.
    if (random.nextInt(3) > 0) {
      at = Math.max(at, random.nextInt(whole.length));
    }
    byte[] b = whole.clone();
    switch (random.nextInt(7)) {
      case 6 -> b = Forge.bytes(whole, random.nextInt(70));
      case 0 -> b[at] = (byte) random.nextInt(256);
      case 1 -> b[at] = (byte) (b[at] + 1);
      case 2 -> b[at] = (byte) (b[at] - 1);
      case 3 -> b[at] = (byte) (32 + random.nextInt(37));
      case 4 -> b = Forge.bytes(Arrays.copyOf(whole, at), random.nextInt(70),
          Arrays.copyOfRange(whole, at, whole.length));
      default -> b = random.nextBoolean() ? Arrays.copyOf(whole, at)
          : Forge.bytes(Arrays.copyOf(whole, at), Arrays.copyOfRange(whole, at + 1, whole.length));
    }
    return b;
  }

  /** One formula with its derivation. */
  private static byte[] formulaPackage(Forge forge) {
    Forge.Shown s = forge.shown(List.of(), 1 + forge.random.nextInt(6));
    return Forge.packed(s.formula(), s.derivation());
  }

  /** Some code, with claims of its registers, and what can be shown plainly. */
  private static byte[] codePackage(Forge forge) {
    Random random = forge.random;
    int many = 2 + random.nextInt(20);
    int claimCount = 1 + random.nextInt(3);
    List<Model.Node> claims = new ArrayList<>();
    for (int i = 0; i < claimCount; i++) {
      claims.add(claim(forge));
    }
    boolean[] mark = new boolean[many];
    List<Integer> marks = new ArrayList<>();
    for (int i = 0; i < many - 1; i++) {
      mark[i] = random.nextInt(4) == 0;
      if (mark[i]) {
        marks.add(i);
      }
    }
    List<byte[]> code = new ArrayList<>();
    for (int i = 0; i < many; i++) {
      int a = random.nextInt(8);
      int b = random.nextInt(8);
      int to = marks.isEmpty() ? 0 : marks.get(random.nextInt(marks.size()));
      int kind = i == many - 1 ? 13 : random.nextInt(marks.isEmpty() ? 8 : 13);
      if (mark[i]) {
        code.add(Forge.ins(15, 0, 0, random.nextInt(claimCount)));
      } else if (kind == 13) {
        code.add(random.nextBoolean() ? Forge.ins(13, 0, 0, 0) : Forge.ins(14, 0, 0, 7));
      } else if (kind == 0) {
        code.add(Forge.ins(0, a, 0, random.nextInt(6)));
      } else if (kind == 1) {
        code.add(Forge.ins(1, a, b, 0));
      } else if (kind < 5) {
        code.add(Forge.ins(kind, a, b, random.nextInt(8)));
      } else if (kind < 8) {
        code.add(Forge.ins(kind, a, b, random.nextInt(40)));
      } else if (kind == 8) {
        code.add(Forge.ins(8, 0, 0, to));
      } else {
        code.add(Forge.ins(kind, a, b, to));
      }
    }
    byte[] opening = Forge.opening(code, claims);
    return Forge.bytes(opening, plainParts(forge, opening));
  }

  private static Model.Node claim(Forge forge) {
    if (forge.oneIn(2)) {
      return Model.TRUE;
    }
    Model.Node r = new Model.Node(6, forge.random.nextInt(8), null, null);
    Model.Node low = Model.two(21, Model.num(0), r);
    Model.Node s = new Model.Node(6, forge.random.nextInt(8), null, null);
    Model.Node f = forge.oneIn(2) ? low : Model.two(17, low, Model.two(22, s, s));
    return forge.oneIn(3) ? Model.all(Model.two(18, Model.two(20, Model.var(0), r), f)) : f;
  }

  private static byte[] plainParts(Forge forge, byte[] opening) {
    Model.Gate gate = new Model().new Gate(opening);
    List<byte[]> parts = new ArrayList<>();
    try {
      gate.open();
      for (Model.Node part : gate.obligation()) {
        parts.add(forge.plainly(part, List.of()));
      }
    } catch (Model.Fault f) {
      return new byte[] {32};
    }
    return Forge.bytes(parts.toArray());
  }

  private static void play(int seed, int[] seen, int[] rules) {
    Random random = new Random(seed);
    Forge forge = new Forge(random);
    Both both = new Both();
    for (int i = 0; i < 4; i++) {
      if (random.nextInt(6) == 0) {
        both.policy(0, 200 + random.nextInt(56), random.nextInt(5), 190);
      }
      byte[] whole = random.nextInt(3) == 0 ? codePackage(forge) : formulaPackage(forge);
      byte[] sent = random.nextInt(2) == 0 ? whole : broken(whole, random);
      if (sent.length > 20000) {
        continue;
      }
      both.bring(sent);
      both.load();
      int fault = both.fault();
      seen[fault]++;
      for (byte b : fault == 0 ? sent : new byte[0]) {
        rules[b & 255]++;
      }
      both.run(random.nextInt(300));
      both.watch(random.nextInt(300));
      if (both.wrong) {
        System.out.println("seed " + seed + ": " + Arrays.toString(sent));
        System.exit(1);
      }
    }
  }

  public static void main(String[] args) throws InterruptedException {
    int from = args.length > 0 ? Integer.parseInt(args[0]) : 0;
    int to = args.length > 1 ? Integer.parseInt(args[1]) : 8000;
    int[] seen = new int[10];
    int[] rules = new int[256];
    boolean[] done = {false};
    Thread thread = new Thread(null, () -> {
      for (int seed = from; seed < to; seed++) {
        play(seed, seen, rules);
      }
      done[0] = true;
    }, "packages", 1L << 29);
    thread.start();
    thread.join();
    System.out.println("faults seen: " + Arrays.toString(seen));
    for (int i = 0; i < 10; i++) {
      // Depth and room have tests of their own.
      if (i != 5 && i != 6 && seen[i] == 0) {
        System.out.println("no package had fault " + i);
        done[0] = false;
      }
    }
    for (int i = 32; i <= 68; i++) {
      if ((i <= 56 || i >= 64) && rules[i] == 0) {
        System.out.println("no package came in with rule " + i);
        done[0] = false;
      }
    }
    if (!done[0]) {
      System.exit(1);
    }
  }
}
